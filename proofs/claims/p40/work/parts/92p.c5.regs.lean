section
variable {NF : Nat}
theorem cpy_in {f g : Nat → Int32} {n k : Nat} (hk : k < n) : va_cpy f g 0 0 n k = f k := by
  unfold va_cpy
  rw [if_pos ⟨Nat.zero_le _, by omega⟩, Nat.zero_add, Nat.sub_zero]
theorem xReg {v v' : Nat → Int32} {f f' : Nat → Nat → Int32} {a b : Nat} (e : gsX_X6_read_1 NF v f = (1, v', f')) (ha : v' 9 = nI a) (hb : v' 10 = nI b) (ha6 : a ≤ 6) (hb6 : b ≤ 6) : ∃ (U : Nat → Int32) (F : Nat → Nat → Int32), gsX_X10_regiment_1 NF v f = (v' 9, U, F) ∧ (U 0 = v' 0 ∧ U 1 = 0 ∧ U 7 = v' 7 ∧ U 8 = v' 8 ∧ U 18 = v' 16 ∧ U 19 = v' 17 ∧ U 20 = 0 ∧ U 21 = 0 ∧ U 22 = 0 ∧ U 23 = 0 ∧ U 31 = v' 9 ∧ U 32 = v' 10 ∧ U 33 = v' 11 ∧ U 34 = v' 12 ∧ U 35 = v' 13 ∧ U 36 = v' 14 ∧ U 41 = 0) ∧ (∀ k, k < 18 → F 9 k = f' 1 k) ∧ (∀ k, k < 24 → F 10 k = f' 2 k) ∧ (∀ k, k < 300 → F 11 k = f' 3 k ∧ F 12 k = f' 4 k) ∧ (∀ k, k < a → F 15 k = f' 1 (6 + k) ∧ F 15 (6 + k) = -1) ∧ (∀ k, k < b → F 15 (12 + k) = f' 2 k ∧ F 15 (18 + k) = f' 2 (6 + k) ∧ F 15 (24 + k) = f' 2 (12 + k) ∧ F 15 (30 + k) = f' 2 (18 + k) ∧ F 15 (36 + k) = 0) ∧ F 15 42 = 0 ∧ F 15 43 = v' 15 ∧ (∀ k, k < 44 → F 17 k = F 15 k) ∧ (∀ k, k < 21 → F 27 k = -1) := by
  generalize hV : upd (upd (upd (upd (upd (upd (upd (upd (upd (upd v' 1 0) 18 (v' 16)) 19 (v' 17)) 31 (v' 9)) 32 (v' 10)) 33 (v' 11)) 34 (v' 12)) 35 (v' 13)) 36 (v' 14)) 37 (v' 15) = V
  generalize hF : upd2 (upd2 (upd2 (upd2 f' 9 (va_cpy (f' 1) (f' 9) 0 0 18)) 10 (va_cpy (f' 2) (f' 10) 0 0 24)) 11 (va_cpy (f' 3) (f' 11) 0 0 300)) 12 (va_cpy (f' 4) (f' 12) 0 0 300) = F1
  have eC : gsX_X7_copy_1 NF (upd v' 1 0) f' = (V, F1) := by
    rw [← hV, ← hF]
    first | rfl | (simp only [gsX_X7_copy_1, gsX_X4_copy_1, show (0 : Int32).toNatClampNeg = 0 from by decide, show (18 : Int32).toNatClampNeg = 18 from by decide, show (24 : Int32).toNatClampNeg = 24 from by decide, show (300 : Int32).toNatClampNeg = 300 from by decide]; rfl)
  have V31 : V 31 = nI a := by rw [← hV]; exact ha
  have V32 : V 32 = nI b := by rw [← hV]; exact hb
  obtain ⟨M, m1, m2, m3, m4, m5, m6⟩ := xMuster (NF := NF) (F0 := F1) V31 V32 ha6 hb6
  generalize hS : upd2 M 17 (va_cpy (M 15) (M 17) 0 0 44) = S
  have eS : ∀ W : Nat → Int32, gsX_X1_saveTo_1 NF 0 W M = (W, S) := fun W => by
    rw [← hS]
    rfl
  have eA : gsX_X5_forgetAll_1 NF V M = (upd (upd (upd (upd V 20 0) 21 0) 22 0) 23 0, S) := by
    simp only [gsX_X5_forgetAll_1, gsX_X5_forgetActs_1, eS]
  obtain ⟨Z, z1, z2, z3, z4⟩ := xFill27 (NF := NF) (V := upd (upd (upd (upd (upd (upd V 20 0) 21 0) 22 0) 23 0) 38 0) 41 0) (F0 := S) (pp := -1)
  have z4 : gsX_J7_fill_53178_1 NF (-1) (upd (upd (upd (upd (upd (upd V 20 0) 21 0) 22 0) 23 0) 38 0) 41 0) S = _ := z4
  refine ⟨upd (upd (upd (upd (upd (upd V 20 0) 21 0) 22 0) 23 0) 38 0) 41 0, Z, ?_, ?_, fun k hk => ?_, fun k hk => ?_, fun k hk => ?_, fun k hk => ?_, fun k hk => ?_, ?_, ?_, fun k hk => ?_, z3⟩
  · simp only [gsX_X10_regiment_1, e, ite11, if_true, eC, m6, eA, gsX_X0_clear_1, gsX_X8_clear_1, z4]
    rw [V31, ha]
  · rw [← hV]
    exact ⟨rfl, rfl, rfl, rfl, rfl, rfl, rfl, rfl, rfl, rfl, rfl, rfl, rfl, rfl, rfl, rfl, rfl⟩
  · rw [z1 9 (by decide), ← hS, show upd2 M 17 (va_cpy (M 15) (M 17) 0 0 44) 9 = M 9 from rfl, m1 9 (by decide), ← hF]
    exact cpy_in hk
  · rw [z1 10 (by decide), ← hS, show upd2 M 17 (va_cpy (M 15) (M 17) 0 0 44) 10 = M 10 from rfl, m1 10 (by decide), ← hF]
    exact cpy_in hk
  · rw [z1 11 (by decide), z1 12 (by decide), ← hS, show upd2 M 17 (va_cpy (M 15) (M 17) 0 0 44) 11 = M 11 from rfl, show upd2 M 17 (va_cpy (M 15) (M 17) 0 0 44) 12 = M 12 from rfl, m1 11 (by decide), m1 12 (by decide), ← hF]
    exact ⟨cpy_in hk, cpy_in hk⟩
  · rw [z1 15 (by decide), ← hS, show upd2 M 17 (va_cpy (M 15) (M 17) 0 0 44) 15 = M 15 from rfl, (m2 k hk).1, (m2 k hk).2, ← hF]
    exact ⟨cpy_in (show 6 + k < 18 by omega), rfl⟩
  · obtain ⟨q1, q2, q3, q4, q5⟩ := m3 k hk
    rw [z1 15 (by decide), ← hS, show upd2 M 17 (va_cpy (M 15) (M 17) 0 0 44) 15 = M 15 from rfl, q1, q2, q3, q4, q5, ← hF]
    exact ⟨cpy_in (show k < 24 by omega), cpy_in (show 6 + k < 24 by omega), cpy_in (show 12 + k < 24 by omega), cpy_in (show 18 + k < 24 by omega), rfl⟩
  · rw [z1 15 (by decide), ← hS]
    exact m4
  · rw [z1 15 (by decide), ← hS, show upd2 M 17 (va_cpy (M 15) (M 17) 0 0 44) 15 = M 15 from rfl, m5, ← hV]
    rfl
  · rw [z1 17 (by decide), z1 15 (by decide), ← hS]
    exact cpy_in hk
theorem xRegF {v v' : Nat → Int32} {f f' : Nat → Nat → Int32} (e : gsX_X6_read_1 NF v f = (0, v', f')) : gsX_X10_regiment_1 NF v f = (-1, upd v' 1 0, f') := by
  simp only [gsX_X10_regiment_1, e, ite01]
theorem yReg {v v2 : Nat → Int32} {f f3 : Nat → Nat → Int32} {w w4 : Int64} {g g5 : Nat → Int64} {a b : Nat} (e : gsY_X11_readAll_1 NF v f w g = (v2, f3, w4, g5)) (h1 : v2 1 = 0) (ha : v2 17 = nI a) (hb : v2 18 = nI b) (ha6 : a ≤ 6) (hb6 : b ≤ 6) {n : Nat} (hn : n ≤ 300) (h15 : (v2 15 = 0 ∧ n = 0) ∨ (v2 15 = 1 ∧ v2 8 = nI n)) : ∃ (U : Nat → Int32) (F : Nat → Nat → Int32), gsY_X11_regiment_1 NF v f w g = (v2 17, U, F, w4, g5) ∧ (U 0 = v2 0 ∧ U 1 = v2 1 ∧ U 2 = v2 2 ∧ U 9 = nI n ∧ U 12 = v2 11 ∧ U 16 = v2 15 ∧ U 24 = v2 17 ∧ U 25 = v2 18 ∧ U 26 = v2 19 ∧ U 27 = v2 20 ∧ U 28 = v2 21 ∧ U 29 = v2 22 ∧ U 35 = 0 ∧ U 36 = 0 ∧ U 38 = 0 ∧ U 39 = v2 39) ∧ (∀ k, k < n → F 4 k = f3 2 k ∧ F 5 k = f3 3 k) ∧ (∀ k, k < a → F 16 k = f3 9 k ∧ F 17 k = f3 10 k ∧ F 18 k = f3 11 k) ∧ (∀ k, k < b → F 19 k = f3 12 k ∧ F 20 k = f3 13 k ∧ F 21 k = f3 14 k ∧ F 22 k = f3 15 k) ∧ (∀ k, k < a → F 23 k = f3 10 k ∧ F 23 (6 + k) = -1) ∧ (∀ k, k < b → F 23 (12 + k) = f3 12 k ∧ F 23 (18 + k) = f3 13 k ∧ F 23 (24 + k) = f3 14 k ∧ F 23 (30 + k) = f3 15 k) ∧ F 23 36 = 0 ∧ F 23 37 = 0 ∧ F 23 38 = v2 23 ∧ (∀ k, k < 3 → F 36 k = vp_nar .boolean 0) ∧ F 0 = f3 0 := by
  generalize hV : upd (upd (upd (upd (upd (upd (upd (upd (upd v2 24 (v2 17)) 25 (v2 18)) 26 (v2 19)) 27 (v2 20)) 28 (v2 21)) 29 (v2 22)) 12 (v2 11)) 16 (v2 15)) 9 (nI n) = V
  have V24 : V 24 = nI a := by rw [← hV]; exact ha
  have V25 : V 25 = nI b := by rw [← hV]; exact hb
  have h10 : v2 1 ≤ 0 := by rw [h1]; decide
  have fin : ∀ (L1 L2 L3 : Nat → Int32 → (Nat → Int32) → (Nat → Nat → Int32) → Int64 → (Nat → Int64) → Int32 × (Nat → Int32) × (Nat → Nat → Int32) × Int64 × (Nat → Int64)) (Fq : Nat → Nat → Int32), (∀ q, q ≠ 4 → q ≠ 5 → Fq q = f3 q) → (∀ k, k < n → Fq 4 k = f3 2 k ∧ Fq 5 k = f3 3 k) →
      (∃ F' : Nat → Nat → Int32, (∀ q, q ≠ 16 → q ≠ 17 → q ≠ 18 → F' q = Fq q) ∧ (∀ k, k < a → F' 16 k = Fq 9 k ∧ F' 17 k = Fq 10 k ∧ F' 18 k = Fq 11 k) ∧ L1 (4294967296 + NF) 0 V Fq w4 g5 = L2 (4294967296 + NF) 0 V F' w4 g5) →
      (∀ F0 : Nat → Nat → Int32, ∃ F' : Nat → Nat → Int32, (∀ q, q ≠ 19 → q ≠ 20 → q ≠ 21 → q ≠ 22 → F' q = F0 q) ∧ (∀ k, k < b → F' 19 k = F0 12 k ∧ F' 20 k = F0 13 k ∧ F' 21 k = F0 14 k ∧ F' 22 k = F0 15 k) ∧ L2 (4294967296 + NF) 0 V F0 w4 g5 = (match gsY_X11_begin_1 NF V F' w4 g5 with | (v21, f22, w23, g24) => (match gsY_X11_keepAir_1 NF v21 (upd2 f22 24 (upd (f22 24) (38 : Int32).toNatClampNeg (v21 23))) w23 g24 with | (v27, f28, w29, g30) => L3 (4294967296 + NF) 0 (upd (upd (upd (upd v27 35 0) 36 0) 38 0) 37 0) f28 w29 g30))) →
      (∀ (W : Nat → Int32) (F0 : Nat → Nat → Int32), ∃ F' : Nat → Nat → Int32, (∀ q, q ≠ 36 → F' q = F0 q) ∧ (∀ k, k < 3 → F' 36 k = vp_nar .boolean 0) ∧ L3 (4294967296 + NF) 0 W F0 w4 g5 = (v2 17, W, F', w4, g5)) →
      gsY_X11_regiment_1 NF v f w g = L1 (4294967296 + NF) 0 V Fq w4 g5 →
      ∃ (U : Nat → Int32) (F : Nat → Nat → Int32), gsY_X11_regiment_1 NF v f w g = (v2 17, U, F, w4, g5) ∧ (U 0 = v2 0 ∧ U 1 = v2 1 ∧ U 2 = v2 2 ∧ U 9 = nI n ∧ U 12 = v2 11 ∧ U 16 = v2 15 ∧ U 24 = v2 17 ∧ U 25 = v2 18 ∧ U 26 = v2 19 ∧ U 27 = v2 20 ∧ U 28 = v2 21 ∧ U 29 = v2 22 ∧ U 35 = 0 ∧ U 36 = 0 ∧ U 38 = 0 ∧ U 39 = v2 39) ∧ (∀ k, k < n → F 4 k = f3 2 k ∧ F 5 k = f3 3 k) ∧ (∀ k, k < a → F 16 k = f3 9 k ∧ F 17 k = f3 10 k ∧ F 18 k = f3 11 k) ∧ (∀ k, k < b → F 19 k = f3 12 k ∧ F 20 k = f3 13 k ∧ F 21 k = f3 14 k ∧ F 22 k = f3 15 k) ∧ (∀ k, k < a → F 23 k = f3 10 k ∧ F 23 (6 + k) = -1) ∧ (∀ k, k < b → F 23 (12 + k) = f3 12 k ∧ F 23 (18 + k) = f3 13 k ∧ F 23 (24 + k) = f3 14 k ∧ F 23 (30 + k) = f3 15 k) ∧ F 23 36 = 0 ∧ F 23 37 = 0 ∧ F 23 38 = v2 23 ∧ (∀ k, k < 3 → F 36 k = vp_nar .boolean 0) ∧ F 0 = f3 0 := by
    intro L1 L2 L3 Fq k1 k2 kM kC kB e1
    obtain ⟨A, a1, a2, a3⟩ := kM
    obtain ⟨B, b1, b2, b3⟩ := kC A
    obtain ⟨C, c1, c2, c3, c4, c5, c6⟩ := yBegin (NF := NF) (F0 := B) (W := w4) (G := g5) V24 V25 ha6 hb6
    have V23 : V 23 = v2 23 := by rw [← hV]; rfl
    rw [c6] at b3
    have b3 : L2 (4294967296 + NF) 0 V A w4 g5 = (match gsY_X11_keepAir_1 NF V (upd2 C 24 (upd (C 24) 38 (V 23))) w4 g5 with | (v27, f28, w29, g30) => L3 (4294967296 + NF) 0 (upd (upd (upd (upd v27 35 0) 36 0) 38 0) 37 0) f28 w29 g30) := b3
    obtain ⟨D, d1, d2, d3⟩ := yKeepAir (NF := NF) (V := V) (F0 := upd2 C 24 (upd (C 24) 38 (V 23))) (W := w4) (G := g5)
    rw [d3] at b3
    have b3 : L2 (4294967296 + NF) 0 V A w4 g5 = L3 (4294967296 + NF) 0 (upd (upd (upd (upd V 35 0) 36 0) 38 0) 37 0) D w4 g5 := b3
    obtain ⟨E, x1, x2, x3⟩ := kB (upd (upd (upd (upd V 35 0) 36 0) 38 0) 37 0) D
    have q24 : ∀ k, k < 39 → E 23 k = upd (C 24) 38 (V 23) k := fun k hk => by rw [x1 23 (by decide), d2 k hk]; rfl
    have qE : ∀ q, q ≠ 36 → q ≠ 23 → q ≠ 24 → E q = B q := fun q z1 z2 z3 => (x1 q z1).trans ((d1 q z2).trans ((u2n z3).trans (c1 q z3)))
    have qA : ∀ q, q ≠ 16 → q ≠ 17 → q ≠ 18 → q ≠ 4 → q ≠ 5 → A q = f3 q := fun q z1 z2 z3 z4 z5 => (a1 q z1 z2 z3).trans (k1 q z4 z5)
    refine ⟨upd (upd (upd (upd V 35 0) 36 0) 38 0) 37 0, E, (e1.trans a3).trans (b3.trans x3), ?_, fun k hk => ?_, fun k hk => ?_, fun k hk => ?_, fun k hk => ?_, fun k hk => ?_, ?_, ?_, ?_, x2, ?_⟩
    · rw [← hV]
      exact ⟨rfl, rfl, rfl, rfl, rfl, rfl, rfl, rfl, rfl, rfl, rfl, rfl, rfl, rfl, rfl, rfl⟩
    · rw [qE 4 (by decide) (by decide) (by decide), qE 5 (by decide) (by decide) (by decide), b1 4 (by decide) (by decide) (by decide) (by decide), b1 5 (by decide) (by decide) (by decide) (by decide), a1 4 (by decide) (by decide) (by decide), a1 5 (by decide) (by decide) (by decide)]
      exact k2 k hk
    · rw [qE 16 (by decide) (by decide) (by decide), qE 17 (by decide) (by decide) (by decide), qE 18 (by decide) (by decide) (by decide), b1 16 (by decide) (by decide) (by decide) (by decide), b1 17 (by decide) (by decide) (by decide) (by decide), b1 18 (by decide) (by decide) (by decide) (by decide), (a2 k hk).1, (a2 k hk).2.1, (a2 k hk).2.2, k1 9 (by decide) (by decide), k1 10 (by decide) (by decide), k1 11 (by decide) (by decide)]
      exact ⟨rfl, rfl, rfl⟩
    · rw [qE 19 (by decide) (by decide) (by decide), qE 20 (by decide) (by decide) (by decide), qE 21 (by decide) (by decide) (by decide), qE 22 (by decide) (by decide) (by decide), (b2 k hk).1, (b2 k hk).2.1, (b2 k hk).2.2.1, (b2 k hk).2.2.2, qA 12 (by decide) (by decide) (by decide) (by decide) (by decide), qA 13 (by decide) (by decide) (by decide) (by decide) (by decide), qA 14 (by decide) (by decide) (by decide) (by decide) (by decide), qA 15 (by decide) (by decide) (by decide) (by decide) (by decide)]
      exact ⟨rfl, rfl, rfl, rfl⟩
    · rw [q24 k (by omega), q24 (6 + k) (by omega), pk_un (by omega), pk_un (by omega), (c2 k hk).1, (c2 k hk).2, b1 17 (by decide) (by decide) (by decide) (by decide), (a2 k hk).2.1, k1 10 (by decide) (by decide)]
      exact ⟨rfl, rfl⟩
    · obtain ⟨y1, y2, y3, y4⟩ := c3 k hk
      rw [q24 (12 + k) (by omega), q24 (18 + k) (by omega), q24 (24 + k) (by omega), q24 (30 + k) (by omega), pk_un (by omega), pk_un (by omega), pk_un (by omega), pk_un (by omega), y1, y2, y3, y4, (b2 k hk).1, (b2 k hk).2.1, (b2 k hk).2.2.1, (b2 k hk).2.2.2, qA 12 (by decide) (by decide) (by decide) (by decide) (by decide), qA 13 (by decide) (by decide) (by decide) (by decide) (by decide), qA 14 (by decide) (by decide) (by decide) (by decide) (by decide), qA 15 (by decide) (by decide) (by decide) (by decide) (by decide)]
      exact ⟨rfl, rfl, rfl, rfl⟩
    · rw [q24 36 (by decide), pk_un (by decide)]; exact c4
    · rw [q24 37 (by decide), pk_un (by decide)]; exact c5
    · rw [q24 38 (by decide), pk_us]; exact V23
    · rw [qE 0 (by decide) (by decide) (by decide), b1 0 (by decide) (by decide) (by decide) (by decide), qA 0 (by decide) (by decide) (by decide) (by decide) (by decide)]
  rcases h15 with ⟨h15, rfl⟩ | ⟨h15, h8⟩
  · refine fin (gsY_X11_regiment_1_L12 NF v2) (gsY_X11_regiment_1_L16 NF v2) (gsY_X11_regiment_1_L31 NF v2) f3 (fun q _ _ => rfl) (fun k hk => absurd hk (Nat.not_lt_zero _)) ?_ ?_ ?_ ?_
    · obtain ⟨F', q1, _, _, _, q5, q6⟩ := yRegMa (NF := NF) (V := V) (F0 := f3) (W := w4) (G := g5) ha ha6
      exact ⟨F', q1, q5, q6⟩
    · intro F0
      obtain ⟨F', q1, _, _, _, _, q5, q6⟩ := yRegCa (NF := NF) (V := V) (F0 := F0) (W := w4) (G := g5) hb hb6
      exact ⟨F', q1, q5, q6⟩
    · intro W F0
      obtain ⟨F', q1, _, q5, q6⟩ := yRegBa (NF := NF) (vv := v2) (V := W) (F0 := F0) (W := w4) (G := g5)
      exact ⟨F', q1, q5, q6⟩
    · simp only [gsY_X11_regiment_1, e]
      rw [if_pos h10, if_pos h15]
      have e0 : ∀ (fu : Nat) (X : Nat → Int32), gsY_X11_regiment_1_L10 NF v2 (fu + 1) 0 X f3 w4 g5 = gsY_X11_regiment_1_L12 NF v2 (4294967296 + NF) 0 X f3 w4 g5 := fun fu X => by
        simp only [gsY_X11_regiment_1_L10]
        rw [if_pos (by decide)]
      obtain ⟨M, hM⟩ : ∃ M, 4294967296 + NF = M + 1 := ⟨4294967295 + NF, by omega⟩
      have e1 := e0 M (upd (upd (upd (upd (upd (upd (upd (upd (upd v2 24 (v2 17)) 25 (v2 18)) 26 (v2 19)) 27 (v2 20)) 28 (v2 21)) 29 (v2 22)) 12 (v2 11)) 16 (v2 15)) 9 0)
      rw [← hM] at e1
      rw [e1, ← hV]
      rfl
  · obtain ⟨Fq, q1, _, _, q5, q6⟩ := yRegF (NF := NF) (V := V) (F0 := f3) (W := w4) (G := g5) h8 hn
    refine fin (gsY_X11_regiment_1_L70 NF v2) (gsY_X11_regiment_1_L74 NF v2) (gsY_X11_regiment_1_L89 NF v2) Fq q1 q5 ?_ ?_ ?_ ?_
    · obtain ⟨F', r1, _, _, _, r5, r6⟩ := yRegMb (NF := NF) (V := V) (F0 := Fq) (W := w4) (G := g5) ha ha6
      exact ⟨F', r1, r5, r6⟩
    · intro F0
      obtain ⟨F', r1, _, _, _, _, r5, r6⟩ := yRegCb (NF := NF) (V := V) (F0 := F0) (W := w4) (G := g5) hb hb6
      exact ⟨F', r1, r5, r6⟩
    · intro W F0
      obtain ⟨F', r1, _, r5, r6⟩ := yRegBb (NF := NF) (vv := v2) (V := W) (F0 := F0) (W := w4) (G := g5)
      exact ⟨F', r1, r5, r6⟩
    · simp only [gsY_X11_regiment_1, e]
      rw [if_pos h10, if_neg (show ¬ v2 15 = 0 by rw [h15]; decide), ← q6, ← hV, h8]
theorem yRegFail {v v2 : Nat → Int32} {f f3 : Nat → Nat → Int32} {w w4 : Int64} {g g5 : Nat → Int64} (e : gsY_X11_readAll_1 NF v f w g = (v2, f3, w4, g5)) (h1 : ¬ v2 1 ≤ 0) : gsY_X11_regiment_1 NF v f w g = (-1, v2, f3, w4, g5) := by
  simp only [gsY_X11_regiment_1, e]
  rw [if_neg h1]
end
