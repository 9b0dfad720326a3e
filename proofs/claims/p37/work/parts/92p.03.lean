section
section
variable {NF : Nat}
section
variable {V : Nat → Int32} {F : Nat → Nat → Int32} {V1 : Nat → Int32} {F1 : Nat → Nat → Int32} {W : Int64} {G : Nat → Int64} {a b m c : Nat}
theorem xWears12 (h : V 31 = nI a) (ha : a ≤ 6) (hm : m < a) : gsX_X1_wears_2 NF (nI m) V F = F 18 (6 + m) := by
  simp only [gsX_X1_wears_2, xHasM1 (NF := NF) (F := F) h ha hm]
  rw [if_pos trivial, show (6 : Int32) + nI m = nI (6 + m) from nI_add 6 m, nI_clamp (by omega)]
theorem xWears02 {p : Int32} (h : V 31 = nI a) (hn : ¬ ∃ P, P < a ∧ p = nI P) : gsX_X1_wears_2 NF p V F = -1 := by
  simp only [gsX_X1_wears_2, xHasM0 (NF := NF) (F := F) h hn]
  rw [ite01]
theorem xWide12 (h : V 31 = nI a) (ha : a ≤ 6) (hm : m < a) : gsX_X1_manWide_2 NF (nI m) V F = F 18 m := by
  simp only [gsX_X1_manWide_2, xHasM1 (NF := NF) (F := F) h ha hm]
  rw [if_pos trivial, nI_clamp (by omega)]
theorem xPart12 {p : Nat} (h : V 32 = nI b) (hb : b ≤ 6) (hc : c < b) (hp : p < 5) : gsX_X1_part_2 NF (nI p) (nI c) V F = F 18 (12 + p * 6 + c) := by
  simp only [gsX_X1_part_2, xHasC1 (NF := NF) (F := F) h hb hc]
  rw [if_pos trivial, if_neg (show ¬ nI p < (0 : Int32) from nI_pos (by omega)), if_neg (show ¬ (5 : Int32) ≤ nI p from lit_nle (b := 5) rfl hp (by decide)), show nI p * 6 = nI (p * 6) from nI_mulI p 6, show (12 : Int32) + nI (p * 6) = nI (12 + p * 6) from nI_add 12 (p * 6), nI_add, nI_clamp (by omega)]
theorem xPart02 {p q : Int32} (h : V 32 = nI b) (hn : ¬ ∃ P, P < b ∧ q = nI P) : gsX_X1_part_2 NF p q V F = 0 := by
  simp only [gsX_X1_part_2, xHasC0 (NF := NF) (F := F) h hn]
  rw [ite01]
theorem xSetP12 {p : Nat} {z : Int32} (h : V 32 = nI b) (hb : b ≤ 6) (hc : c < b) (hp : p < 5) : gsX_X1_setPart_2 NF (nI p) (nI c) z V F = (V, upd2 F 18 (upd (F 18) (12 + p * 6 + c) z)) := by
  simp only [gsX_X1_setPart_2, xHasC1 (NF := NF) (F := F) h hb hc]
  rw [if_pos trivial, if_neg (show ¬ nI p < (0 : Int32) from nI_pos (by omega)), if_neg (show ¬ (5 : Int32) ≤ nI p from lit_nle (b := 5) rfl hp (by decide)), show nI p * 6 = nI (p * 6) from nI_mulI p 6, show (12 : Int32) + nI (p * 6) = nI (12 + p * 6) from nI_add 12 (p * 6), nI_add, nI_clamp (by omega)]
theorem xSetP02 {p q z : Int32} (h : V 32 = nI b) (hn : ¬ ∃ P, P < b ∧ q = nI P) : gsX_X1_setPart_2 NF p q z V F = (V, F) := by
  simp only [gsX_X1_setPart_2, xHasC0 (NF := NF) (F := F) h hn]
  rw [ite01]
theorem xSetW12 {z : Int32} (h : V 31 = nI a) (ha : a ≤ 6) (hm : m < a) : gsX_X1_setWears_2 NF (nI m) z V F = (V, upd2 F 18 (upd (F 18) (6 + m) z)) := by
  simp only [gsX_X1_setWears_2, xHasM1 (NF := NF) (F := F) h ha hm]
  rw [if_pos trivial, show (6 : Int32) + nI m = nI (6 + m) from nI_add 6 m, nI_clamp (by omega)]
end
end
section
variable {NF : Nat}
theorem illBoth2 {v : Nat → Int32} {f F : Nat → Nat → Int32} {v1 : Nat → Int32} {f1 F1 : Nat → Nat → Int32} {w1 : Int64} {g : Nat → Int64} {a b m c D : Nat} (a1 : v 31 = nI a) (a3 : a ≤ 6) (b1 : v 32 = nI b) (b3 : b ≤ 6) (sm : STM f f1 a) (sf : STF v f v1 f1) (hD : D ≤ 9999) (hF : ∀ q, q = 9 ∨ q = 11 ∨ q = 12 → F q = f q) (hF1 : ∀ q, q = 4 ∨ q = 5 ∨ q = 16 → F1 q = f1 q) (hn : CMS D a b (F 18) (F1 24)) (hm : m < a) (hc : c < b) : ∃ (r : Int32) (F' F1' : Nat → Nat → Int32), gsX_X1_illness_2 NF (nI m) (nI c) v F = (r, v, F') ∧ gsY_X11_misfitOf_1 NF (nI m) (nI c) v1 F1 w1 g = (r, v1, F1', w1, g) ∧ (∀ q, q ≠ 13 → q ≠ 14 → F' q = F q) ∧ (∀ q, q ≠ 7 → q ≠ 8 → F1' q = F1 q) ∧ (0 ≤ r ∧ r ≤ 999) := by
  obtain ⟨n1, n2, n3, d6, hd6, ed6⟩ := hn
  obtain ⟨m1, d2, hd2, ed2⟩ := n1 m hm
  obtain ⟨⟨k1, d3, hd3, ed3⟩, ⟨k2, d4, hd4, ed4⟩, ⟨k3, d5, hd5, ed5⟩⟩ := n2 c hc
  obtain ⟨t1, _, _, tb⟩ := sm m hm
  obtain ⟨d1, hd1, ed1⟩ := NBx.of (n := 99) rfl (by decide) tb.1
  have x1 : gsX_X7_manPart_1 NF 0 (nI m) v F = nI d1 := by
    have q : gsX_X7_manPart_1 NF 0 (nI m) v F = F 9 (0 * 6 + m) := xManP (p := 0) a1 a3 hm (by decide)
    rw [q, hF 9 (Or.inl rfl), Nat.zero_mul, Nat.zero_add]
    exact ed1
  have x2 : gsX_X1_manWide_2 NF (nI m) v F = nI d2 := (xWide12 a1 a3 hm).trans ed2
  have x3 : gsX_X1_part_2 NF 0 (nI c) v F = nI d3 := (show gsX_X1_part_2 NF 0 (nI c) v F = F 18 (12 + c) from xPart12 (p := 0) b1 b3 hc (by decide)).trans ed3
  have x4 : gsX_X1_part_2 NF 1 (nI c) v F = nI d4 := (show gsX_X1_part_2 NF 1 (nI c) v F = F 18 (18 + c) from xPart12 (p := 1) b1 b3 hc (by decide)).trans ed4
  have x5 : gsX_X1_part_2 NF 3 (nI c) v F = nI d5 := (show gsX_X1_part_2 NF 3 (nI c) v F = F 18 (30 + c) from xPart12 (p := 3) b1 b3 hc (by decide)).trans ed5
  have x6 : gsX_X1_today_2 NF v F = nI d6 := by
    simp only [gsX_X1_today_2, cN42]
    exact ed6
  obtain ⟨G, g1, g2⟩ := worthX (NF := NF) (P1 := d1) (P2 := d2) (P3 := d3) (P4 := d4) (P5 := d5) (P6 := d6) (by omega) (by omega) (by omega) (by omega) (by omega) (v := v) (f := F)
  obtain ⟨G1, g3, g4⟩ := misfY (NF := NF) (P1 := d1) (P2 := d2) (P3 := d3) (P4 := d4) (P5 := d5) (P6 := d6) (m := m) (c := c) (by omega) (by omega) (by omega) (by omega) (by omega) (by omega) (by omega) (v1 := v1) (f1 := F1) (w1 := w1) (g := g) (by rw [hF1 16 (Or.inr (Or.inr rfl)), ← t1]; exact ed1) (by rw [← m1]; exact ed2) (by rw [← k1]; exact ed3) (by rw [← k2]; exact ed4) (by rw [← k3]; exact ed5) (by rw [← n3]; exact ed6)
  have sf' : STF v F v1 F1 := by
    unfold STF
    rw [hF 11 (Or.inr (Or.inl rfl)), hF 12 (Or.inr (Or.inr rfl)), hF1 4 (Or.inl rfl), hF1 5 (Or.inr (Or.inl rfl))]
    exact sf
  have hA : agr 6 G G1 := by
    obtain ⟨p0, p1, p2, p3, p4, p5⟩ := g1
    obtain ⟨q0, q1, q2, q3, q4, q5⟩ := g3
    intro k hk
    rcases (show k = 0 ∨ k = 1 ∨ k = 2 ∨ k = 3 ∨ k = 4 ∨ k = 5 by omega) with e | e | e | e | e | e <;> subst e
    · exact p0.trans q0.symm
    · exact p1.trans q1.symm
    · exact p2.trans q2.symm
    · exact p3.trans q3.symm
    · exact p4.trans q4.symm
    · exact p5.trans q5.symm
  obtain ⟨r, A, B, e1, e2, e3, e4, e5⟩ := evPair (NF := NF) (w1 := w1) (g := g) sf' hA (df9_rng (dfI d1 d2 d3 d4 d5) (by unfold dfI; omega))
  refine ⟨r, A, B, ?_, g4.trans e2, e3, e4, e5⟩
  simp only [gsX_X1_illness_2, x1, x2, x3, x4, x5, x6, g2, e1]
theorem fitX2 {v : Nat → Int32} {f F : Nat → Nat → Int32} {v1 : Nat → Int32} {f1 F1 : Nat → Nat → Int32} {w1 : Int64} {g : Nat → Int64} {a b m c D : Nat} (a1 : v 31 = nI a) (a3 : a ≤ 6) (b1 : v 32 = nI b) (b3 : b ≤ 6) (sm : STM f f1 a) (sf : STF v f v1 f1) (hD : D ≤ 9999) (hF : ∀ q, q = 9 ∨ q = 11 ∨ q = 12 → F q = f q) (hF1 : ∀ q, q = 4 ∨ q = 5 ∨ q = 16 → F1 q = f1 q) (hn : CMS D a b (F 18) (F1 24)) (hm : m < a) (hc : c < b) : ∃ F' : Nat → Nat → Int32, gsX_X1_illness_2 NF (nI m) (nI c) v F = (yI NF v1 F1 w1 g m c, v, F') ∧ gsX_X1_fits_2 NF (nI m) (nI c) v F = ((if v 33 < yI NF v1 F1 w1 g m c then 0 else 1), v, F') ∧ (∀ q, q ≠ 13 → q ≠ 14 → F' q = F q) := by
  obtain ⟨r, A, B, e1, e2, e3, _, _⟩ := illBoth2 (NF := NF) (w1 := w1) (g := g) a1 a3 b1 b3 sm sf hD hF hF1 hn hm hc
  have er : yI NF v1 F1 w1 g m c = r := by unfold yI; rw [e2]
  rw [er]
  refine ⟨A, e1, ?_, e3⟩
  simp only [gsX_X1_fits_2, xHasM1 (NF := NF) (F := F) a1 a3 hm, xHasC1 (NF := NF) (F := F) b1 b3 hc, ite11, if_true, e1]
  by_cases z : v 33 < r
  · rw [if_pos z, if_pos z]
  · rw [if_neg z, if_neg z]
theorem fitX02 {v : Nat → Int32} {F : Nat → Nat → Int32} {a b m : Nat} (a1 : v 31 = nI a) (a3 : a ≤ 6) (b1 : v 32 = nI b) (b3 : b ≤ 6) (hm : m < a) : gsX_X1_fits_2 NF (nI m) (-1) v F = (0, v, F) := by
  have q : gsX_X7_hasCoat_1 NF (-1) v F = 0 := xHasC0 b1 (fun ⟨P, hP, z⟩ => nI_nm1 (show P < 2 ^ 31 by omega) z.symm)
  simp only [gsX_X1_fits_2, xHasM1 (NF := NF) (F := F) a1 a3 hm, q, ite11, if_true, ite01]
end
section
variable {NF : Nat}
section
variable {v : Nat → Int32} {F : Nat → Nat → Int32} {a b : Nat}
theorem xGrow2 {p1 : Int32} (a1 : v 31 = nI a) (a3 : a ≤ 6) (hW : ∀ m, m < a → NBx 99 (F 18 m)) (hG : ∀ m, m < a → NBx 9 (F 9 (12 + m))) : ∃ F' : Nat → Nat → Int32, (∀ q, q ≠ 18 → F' q = F q) ∧ (∀ k, ¬ k < a → F' 18 k = F 18 k) ∧ (∀ m, m < a → F' 18 m = nI (min 99 (nv (F 18 m) + nv (F 9 (12 + m))))) ∧ gsX_X1_passDay_2 NF p1 v F = (if p1 ≤ dr2 (F' 18 43) then gsX_X1_passDay_2_L15 NF v (4294967296 + NF) 0 v (upd2 F' 18 (upd (F' 18) 43 (dr1 (F' 18 43)))) else gsX_X1_passDay_2_L56 NF v (4294967296 + NF) 0 v (upd2 F' 18 (upd (F' 18) 43 (dr1 (F' 18 43))))) := by
  refine lpQ (S := SX) (fun fu i s => gsX_X1_passDay_2_L1 NF p1 v fu i s.1 s.2) (fun r => ∃ F' : Nat → Nat → Int32, (∀ q, q ≠ 18 → F' q = F q) ∧ (∀ k, ¬ k < a → F' 18 k = F 18 k) ∧ (∀ m, m < a → F' 18 m = nI (min 99 (nv (F 18 m) + nv (F 9 (12 + m))))) ∧ r = (if p1 ≤ dr2 (F' 18 43) then gsX_X1_passDay_2_L15 NF v (4294967296 + NF) 0 v (upd2 F' 18 (upd (F' 18) 43 (dr1 (F' 18 43)))) else gsX_X1_passDay_2_L56 NF v (4294967296 + NF) 0 v (upd2 F' 18 (upd (F' 18) 43 (dr1 (F' 18 43)))))) (fun j s => ∃ F' : Nat → Nat → Int32, s = (v, F') ∧ (∀ q, q ≠ 18 → F' q = F q) ∧ (∀ k, ¬ k < j → F' 18 k = F 18 k) ∧ (∀ m, m < j → F' 18 m = nI (min 99 (nv (F 18 m) + nv (F 9 (12 + m)))))) a ?_ ?_ a 0 (4294967296 + NF) (v, F) (by omega) (by omega) ⟨F, rfl, fun q _ => rfl, fun i _ => rfl, fun k hk => absurd hk (Nat.not_lt_zero _)⟩
  · intro fu j s hj hs
    obtain ⟨y, rfl, hF, hO, hK⟩ := hs
    obtain ⟨w1, w2⟩ := (hW j hj).nat (by decide)
    obtain ⟨g1, g2⟩ := (hG j hj).nat (by decide)
    have mp : gsX_X7_manPart_1 NF 2 (nI j) v y = nI (nv (F 9 (12 + j))) := by
      have q : gsX_X7_manPart_1 NF 2 (nI j) v y = y 9 (12 + j) := xManP (p := 2) a1 a3 hj (by decide)
      rw [q, hF 9 (by decide)]; exact g2
    have yj : y 18 j = nI (nv (F 18 j)) := (hO j (by omega)).trans w2
    refine Or.inl ⟨(v, upd2 y 18 (upd (y 18) j (nI (min 99 (nv (F 18 j) + nv (F 9 (12 + j))))))), ⟨_, rfl, fun q hq => (u2n hq).trans (hF q hq), fun k hk => ?_, fun m hm => ?_⟩, ?_⟩
    · show upd (y 18) j _ k = _
      rw [pk_un (by omega)]; exact hO k (by omega)
    · show upd (y 18) j _ m = _
      by_cases e : m = j
      · rw [e, pk_us]
      · rw [pk_un e]; exact hK m (by omega)
    · show gsX_X1_passDay_2_L1 NF p1 v (fu + 1) (nI j) v y = gsX_X1_passDay_2_L1 NF p1 v fu (nI (j + 1)) v _
      simp only [gsX_X1_passDay_2_L1, a1, mp, nI_clamp (show j < 2 ^ 31 by omega), yj, nI_add, nI_1, min99 (show nv (F 18 j) + nv (F 9 (12 + j)) < 2 ^ 31 by omega)]
      rw [if_neg (show ¬ nI a ≤ nI j from nI_ge hj (by omega))]
  · intro fu s hs
    obtain ⟨y, rfl, hF, hO, hK⟩ := hs
    refine ⟨y, hF, hO, hK, ?_⟩
    show gsX_X1_passDay_2_L1 NF p1 v (fu + 1) (nI a) v y = _
    simp only [gsX_X1_passDay_2_L1, a1, cN43, u2s, pk_us]
    rw [if_pos (show nI a ≤ nI a from nI_le (Nat.le_refl _) (by omega))]
    rfl
theorem xWeat12 {c z : Nat} (b1 : v 32 = nI b) (b3 : b ≤ 6) (hc : c < b) (hz : z ≤ 1) (h12 : NBx 99 (F 18 (12 + c))) (h18 : NBx 99 (F 18 (18 + c))) (h30 : NBx 99 (F 18 (30 + c))) : gsX_X1_weather_2 NF (nI c) (nI z) v F = (v, upd2 F 18 (upd (upd (upd (F 18) (30 + c) (nI (min 99 (nv (F 18 (30 + c)) + 1)))) (18 + c) (nI (nv (F 18 (18 + c)) - z))) (12 + c) (nI (nv (F 18 (12 + c)) - z)))) := by
  obtain ⟨q1, q2⟩ := h12.nat (by decide)
  obtain ⟨q3, q4⟩ := h18.nat (by decide)
  obtain ⟨q5, q6⟩ := h30.nat (by decide)
  have r3 : gsX_X1_part_2 NF 3 (nI c) v F = nI (nv (F 18 (30 + c))) := (show gsX_X1_part_2 NF 3 (nI c) v F = F 18 (30 + c) from xPart12 (p := 3) b1 b3 hc (by decide)).trans q6
  generalize hA : upd2 F 18 (upd (F 18) (30 + c) (nI (min 99 (nv (F 18 (30 + c)) + 1)))) = A
  have s3 : gsX_X1_setPart_2 NF 3 (nI c) (nI (min 99 (nv (F 18 (30 + c)) + 1))) v F = (v, A) := by rw [← hA]; exact xSetP12 (p := 3) b1 b3 hc (by decide)
  have A18 : A 18 (18 + c) = nI (nv (F 18 (18 + c))) := by rw [← hA, u2s, pk_un (by omega)]; exact q4
  have A12 : A 18 (12 + c) = nI (nv (F 18 (12 + c))) := by rw [← hA, u2s, pk_un (by omega)]; exact q2
  have r1 : gsX_X1_part_2 NF 1 (nI c) v A = nI (nv (F 18 (18 + c))) := (show gsX_X1_part_2 NF 1 (nI c) v A = A 18 (18 + c) from xPart12 (p := 1) b1 b3 hc (by decide)).trans A18
  generalize hB : upd2 A 18 (upd (A 18) (18 + c) (nI (nv (F 18 (18 + c)) - z))) = B
  have s1 : gsX_X1_setPart_2 NF 1 (nI c) (nI (nv (F 18 (18 + c)) - z)) v A = (v, B) := by rw [← hB]; exact xSetP12 (p := 1) b1 b3 hc (by decide)
  have B12 : B 18 (12 + c) = nI (nv (F 18 (12 + c))) := by rw [← hB, u2s, pk_un (by omega)]; exact A12
  have r0 : gsX_X1_part_2 NF 0 (nI c) v B = nI (nv (F 18 (12 + c))) := (show gsX_X1_part_2 NF 0 (nI c) v B = B 18 (12 + c) from xPart12 (p := 0) b1 b3 hc (by decide)).trans B12
  have s0 : gsX_X1_setPart_2 NF 0 (nI c) (nI (nv (F 18 (12 + c)) - z)) v B = (v, upd2 B 18 (upd (B 18) (12 + c) (nI (nv (F 18 (12 + c)) - z)))) := xSetP12 (p := 0) b1 b3 hc (by decide)
  simp only [gsX_X1_weather_2, r3, nI_1, min99 (show nv (F 18 (30 + c)) + 1 < 2 ^ 31 by omega), s3, r1, ovX (show nv (F 18 (18 + c)) < 2 ^ 31 by omega) (show z < 2 ^ 31 by omega), s1, r0, ovX (show nv (F 18 (12 + c)) < 2 ^ 31 by omega) (show z < 2 ^ 31 by omega), s0]
  rw [← hB, ← hA, u2s, u2s, upd2_2, upd2_2]
theorem xWeat02 {p : Int32} (b1 : v 32 = nI b) (b3 : b ≤ 6) : gsX_X1_weather_2 NF (-1) p v F = (v, F) := by
  have n : ¬ ∃ P, P < b ∧ (-1 : Int32) = nI P := fun ⟨P, hP, z⟩ => nI_nm1 (show P < 2 ^ 31 by omega) z.symm
  simp only [gsX_X1_weather_2, xSetP02 (NF := NF) (F := F) b1 n]
theorem xWeat2_0 (a1 : v 31 = nI a) (a3 : a ≤ 6) (b1 : v 32 = nI b) (b3 : b ≤ 6) (hw : ∀ m, m < a → F 18 (6 + m) = -1 ∨ ∃ c, c < b ∧ F 18 (6 + m) = nI c) (hi : ∀ m m', m < a → m' < a → F 18 (6 + m) = F 18 (6 + m') → ¬ F 18 (6 + m) = -1 → m = m') (hN : ∀ c, c < b → NBx 99 (F 18 (12 + c)) ∧ NBx 99 (F 18 (18 + c)) ∧ NBx 99 (F 18 (30 + c))) : ∃ F' : Nat → Nat → Int32, (∀ q, q ≠ 18 → F' q = F q) ∧ WTH 0 b (fun c => ∃ m, m < a ∧ F 18 (6 + m) = nI c) (F 18) (F' 18) ∧ gsX_X1_passDay_2_L15 NF v (4294967296 + NF) 0 v F = gsX_X1_passDay_2_L21 NF v (4294967296 + NF) 0 0 v (upd2 F' 18 (upd (F' 18) 42 (F' 18 42 + 1))) := by
  refine lpQ (S := SX) (fun fu i s => gsX_X1_passDay_2_L15 NF v fu i s.1 s.2) (fun r => ∃ F' : Nat → Nat → Int32, (∀ q, q ≠ 18 → F' q = F q) ∧ WTH 0 b (fun c => ∃ m, m < a ∧ F 18 (6 + m) = nI c) (F 18) (F' 18) ∧ r = gsX_X1_passDay_2_L21 NF v (4294967296 + NF) 0 0 v (upd2 F' 18 (upd (F' 18) 42 (F' 18 42 + 1)))) (fun j s => ∃ F' : Nat → Nat → Int32, s = (v, F') ∧ (∀ q, q ≠ 18 → F' q = F q) ∧ WTH 0 b (fun c => ∃ m, m < j ∧ F 18 (6 + m) = nI c) (F 18) (F' 18)) a ?_ ?_ a 0 (4294967296 + NF) (v, F) (by omega) (by omega) ⟨F, rfl, fun q _ => rfl, fun k _ => rfl, fun c hc => ⟨fun ⟨m, hm, _⟩ => absurd hm (Nat.not_lt_zero _), fun _ => ⟨rfl, rfl, rfl⟩⟩⟩
  · intro fu j s hj hs
    obtain ⟨y, rfl, hF, hO, hC⟩ := hs
    have yw : gsX_X1_wears_2 NF (nI j) v y = F 18 (6 + j) := (xWears12 a1 a3 hj).trans (hO (6 + j) (by omega))
    rcases hw j hj with wn | ⟨c0, hc0, wc⟩
    · refine Or.inl ⟨(v, y), ⟨y, rfl, hF, hO, fun c hc => ⟨fun ⟨m, hm, em⟩ => ?_, fun n => ?_⟩⟩, ?_⟩
      · have : m ≠ j := fun z => by rw [z, wn] at em; exact nI_nm1 (show c < 2 ^ 31 by omega) em.symm
        exact (hC c hc).1 ⟨m, by omega, em⟩
      · exact (hC c hc).2 (fun ⟨m, hm, em⟩ => n ⟨m, by omega, em⟩)
      · show gsX_X1_passDay_2_L15 NF v (fu + 1) (nI j) v y = gsX_X1_passDay_2_L15 NF v fu (nI (j + 1)) v y
        simp only [gsX_X1_passDay_2_L15, a1, yw, wn, xWeat02 (NF := NF) (F := y) b1 b3, nI_1]
        rw [if_neg (show ¬ nI a ≤ nI j from nI_ge hj (by omega))]
    · have fresh : ¬ ∃ m, m < j ∧ F 18 (6 + m) = nI c0 := fun ⟨m, hm, em⟩ => by
        have := hi m j (by omega) hj (em.trans wc.symm) (by rw [em]; exact nI_nm1 (by omega))
        omega
      obtain ⟨o1, o2, o3⟩ := (hC c0 hc0).2 fresh
      obtain ⟨b12, b18, b30⟩ := hN c0 hc0
      have we := xWeat12 (NF := NF) (v := v) (F := y) (z := 0) b1 b3 hc0 (by decide) (by rw [o1]; exact b12) (by rw [o2]; exact b18) (by rw [o3]; exact b30)
      rw [o1, o2, o3] at we
      generalize hU : upd (upd (upd (y 18) (30 + c0) (nI (min 99 (nv (F 18 (30 + c0)) + 1)))) (18 + c0) (nI (nv (F 18 (18 + c0)) - 0))) (12 + c0) (nI (nv (F 18 (12 + c0)) - 0)) = U at we
      refine Or.inl ⟨(v, upd2 y 18 U), ⟨_, rfl, fun q hq => (u2n hq).trans (hF q hq), fun k hk => ?_, fun c hc => ?_⟩, ?_⟩
      · show U k = _
        rw [← hU, pk_un (by omega), pk_un (by omega), pk_un (by omega)]
        exact hO k hk
      · show (_ → U (12 + c) = _ ∧ U (18 + c) = _ ∧ U (30 + c) = _) ∧ (_ → U (12 + c) = _ ∧ U (18 + c) = _ ∧ U (30 + c) = _)
        by_cases e : c = c0
        · subst e
          refine ⟨fun _ => ⟨?_, ?_, ?_⟩, fun n => absurd ⟨j, by omega, wc⟩ n⟩
          · rw [← hU, pk_us]
          · rw [← hU, pk_un (by omega), pk_us]
          · rw [← hU, pk_un (by omega), pk_un (by omega), pk_us]
        · have e1 : U (12 + c) = y 18 (12 + c) := by rw [← hU, pk_un (by omega), pk_un (by omega), pk_un (by omega)]
          have e2 : U (18 + c) = y 18 (18 + c) := by rw [← hU, pk_un (by omega), pk_un (by omega), pk_un (by omega)]
          have e3 : U (30 + c) = y 18 (30 + c) := by rw [← hU, pk_un (by omega), pk_un (by omega), pk_un (by omega)]
          rw [e1, e2, e3]
          refine ⟨fun ⟨m, hm, em⟩ => ?_, fun n => ?_⟩
          · have : m ≠ j := fun z => by
              rw [z, wc] at em
              exact e ((nI_eq (by omega) (by omega)).mp em).symm
            exact (hC c hc).1 ⟨m, by omega, em⟩
          · exact (hC c hc).2 (fun ⟨m, hm, em⟩ => n ⟨m, by omega, em⟩)
      · show gsX_X1_passDay_2_L15 NF v (fu + 1) (nI j) v y = gsX_X1_passDay_2_L15 NF v fu (nI (j + 1)) v (upd2 y 18 U)
        have we : gsX_X1_weather_2 NF (nI c0) 0 v y = (v, upd2 y 18 U) := we
        simp only [gsX_X1_passDay_2_L15, a1, yw, wc, we, nI_1]
        rw [if_neg (show ¬ nI a ≤ nI j from nI_ge hj (by omega))]
  · intro fu s hs
    obtain ⟨y, rfl, hF, hC⟩ := hs
    refine ⟨y, hF, hC, ?_⟩
    show gsX_X1_passDay_2_L15 NF v (fu + 1) (nI a) v y = _
    simp only [gsX_X1_passDay_2_L15, a1, cN42]
    rw [if_pos (show nI a ≤ nI a from nI_le (Nat.le_refl _) (by omega))]
theorem xWeat2_1 (a1 : v 31 = nI a) (a3 : a ≤ 6) (b1 : v 32 = nI b) (b3 : b ≤ 6) (hw : ∀ m, m < a → F 18 (6 + m) = -1 ∨ ∃ c, c < b ∧ F 18 (6 + m) = nI c) (hi : ∀ m m', m < a → m' < a → F 18 (6 + m) = F 18 (6 + m') → ¬ F 18 (6 + m) = -1 → m = m') (hN : ∀ c, c < b → NBx 99 (F 18 (12 + c)) ∧ NBx 99 (F 18 (18 + c)) ∧ NBx 99 (F 18 (30 + c))) : ∃ F' : Nat → Nat → Int32, (∀ q, q ≠ 18 → F' q = F q) ∧ WTH 1 b (fun c => ∃ m, m < a ∧ F 18 (6 + m) = nI c) (F 18) (F' 18) ∧ gsX_X1_passDay_2_L56 NF v (4294967296 + NF) 0 v F = gsX_X1_passDay_2_L62 NF v (4294967296 + NF) 0 0 v (upd2 F' 18 (upd (F' 18) 42 (F' 18 42 + 1))) := by
  refine lpQ (S := SX) (fun fu i s => gsX_X1_passDay_2_L56 NF v fu i s.1 s.2) (fun r => ∃ F' : Nat → Nat → Int32, (∀ q, q ≠ 18 → F' q = F q) ∧ WTH 1 b (fun c => ∃ m, m < a ∧ F 18 (6 + m) = nI c) (F 18) (F' 18) ∧ r = gsX_X1_passDay_2_L62 NF v (4294967296 + NF) 0 0 v (upd2 F' 18 (upd (F' 18) 42 (F' 18 42 + 1)))) (fun j s => ∃ F' : Nat → Nat → Int32, s = (v, F') ∧ (∀ q, q ≠ 18 → F' q = F q) ∧ WTH 1 b (fun c => ∃ m, m < j ∧ F 18 (6 + m) = nI c) (F 18) (F' 18)) a ?_ ?_ a 0 (4294967296 + NF) (v, F) (by omega) (by omega) ⟨F, rfl, fun q _ => rfl, fun k _ => rfl, fun c hc => ⟨fun ⟨m, hm, _⟩ => absurd hm (Nat.not_lt_zero _), fun _ => ⟨rfl, rfl, rfl⟩⟩⟩
  · intro fu j s hj hs
    obtain ⟨y, rfl, hF, hO, hC⟩ := hs
    have yw : gsX_X1_wears_2 NF (nI j) v y = F 18 (6 + j) := (xWears12 a1 a3 hj).trans (hO (6 + j) (by omega))
    rcases hw j hj with wn | ⟨c0, hc0, wc⟩
    · refine Or.inl ⟨(v, y), ⟨y, rfl, hF, hO, fun c hc => ⟨fun ⟨m, hm, em⟩ => ?_, fun n => ?_⟩⟩, ?_⟩
      · have : m ≠ j := fun z => by rw [z, wn] at em; exact nI_nm1 (show c < 2 ^ 31 by omega) em.symm
        exact (hC c hc).1 ⟨m, by omega, em⟩
      · exact (hC c hc).2 (fun ⟨m, hm, em⟩ => n ⟨m, by omega, em⟩)
      · show gsX_X1_passDay_2_L56 NF v (fu + 1) (nI j) v y = gsX_X1_passDay_2_L56 NF v fu (nI (j + 1)) v y
        simp only [gsX_X1_passDay_2_L56, a1, yw, wn, xWeat02 (NF := NF) (F := y) b1 b3, nI_1]
        rw [if_neg (show ¬ nI a ≤ nI j from nI_ge hj (by omega))]
    · have fresh : ¬ ∃ m, m < j ∧ F 18 (6 + m) = nI c0 := fun ⟨m, hm, em⟩ => by
        have := hi m j (by omega) hj (em.trans wc.symm) (by rw [em]; exact nI_nm1 (by omega))
        omega
      obtain ⟨o1, o2, o3⟩ := (hC c0 hc0).2 fresh
      obtain ⟨b12, b18, b30⟩ := hN c0 hc0
      have we := xWeat12 (NF := NF) (v := v) (F := y) (z := 1) b1 b3 hc0 (by decide) (by rw [o1]; exact b12) (by rw [o2]; exact b18) (by rw [o3]; exact b30)
      rw [o1, o2, o3] at we
      generalize hU : upd (upd (upd (y 18) (30 + c0) (nI (min 99 (nv (F 18 (30 + c0)) + 1)))) (18 + c0) (nI (nv (F 18 (18 + c0)) - 1))) (12 + c0) (nI (nv (F 18 (12 + c0)) - 1)) = U at we
      refine Or.inl ⟨(v, upd2 y 18 U), ⟨_, rfl, fun q hq => (u2n hq).trans (hF q hq), fun k hk => ?_, fun c hc => ?_⟩, ?_⟩
      · show U k = _
        rw [← hU, pk_un (by omega), pk_un (by omega), pk_un (by omega)]
        exact hO k hk
      · show (_ → U (12 + c) = _ ∧ U (18 + c) = _ ∧ U (30 + c) = _) ∧ (_ → U (12 + c) = _ ∧ U (18 + c) = _ ∧ U (30 + c) = _)
        by_cases e : c = c0
        · subst e
          refine ⟨fun _ => ⟨?_, ?_, ?_⟩, fun n => absurd ⟨j, by omega, wc⟩ n⟩
          · rw [← hU, pk_us]
          · rw [← hU, pk_un (by omega), pk_us]
          · rw [← hU, pk_un (by omega), pk_un (by omega), pk_us]
        · have e1 : U (12 + c) = y 18 (12 + c) := by rw [← hU, pk_un (by omega), pk_un (by omega), pk_un (by omega)]
          have e2 : U (18 + c) = y 18 (18 + c) := by rw [← hU, pk_un (by omega), pk_un (by omega), pk_un (by omega)]
          have e3 : U (30 + c) = y 18 (30 + c) := by rw [← hU, pk_un (by omega), pk_un (by omega), pk_un (by omega)]
          rw [e1, e2, e3]
          refine ⟨fun ⟨m, hm, em⟩ => ?_, fun n => ?_⟩
          · have : m ≠ j := fun z => by
              rw [z, wc] at em
              exact e ((nI_eq (by omega) (by omega)).mp em).symm
            exact (hC c hc).1 ⟨m, by omega, em⟩
          · exact (hC c hc).2 (fun ⟨m, hm, em⟩ => n ⟨m, by omega, em⟩)
      · show gsX_X1_passDay_2_L56 NF v (fu + 1) (nI j) v y = gsX_X1_passDay_2_L56 NF v fu (nI (j + 1)) v (upd2 y 18 U)
        have we : gsX_X1_weather_2 NF (nI c0) 1 v y = (v, upd2 y 18 U) := we
        simp only [gsX_X1_passDay_2_L56, a1, yw, wc, we, nI_1]
        rw [if_neg (show ¬ nI a ≤ nI j from nI_ge hj (by omega))]
  · intro fu s hs
    obtain ⟨y, rfl, hF, hC⟩ := hs
    refine ⟨y, hF, hC, ?_⟩
    show gsX_X1_passDay_2_L56 NF v (fu + 1) (nI a) v y = _
    simp only [gsX_X1_passDay_2_L56, a1, cN42]
    rw [if_pos (show nI a ≤ nI a from nI_le (Nat.le_refl _) (by omega))]
end
end
section
variable {NF : Nat}
theorem xShed2_21 {v : Nat → Int32} {f F : Nat → Nat → Int32} {v1 : Nat → Int32} {f1 F1 : Nat → Nat → Int32} {w1 : Int64} {g : Nat → Int64} {a b D : Nat} (a1 : v 31 = nI a) (a3 : a ≤ 6) (b1 : v 32 = nI b) (b3 : b ≤ 6) (sm : STM f f1 a) (sf : STF v f v1 f1) (hD : D ≤ 9999) (hF : ∀ q, q = 9 ∨ q = 11 ∨ q = 12 → F q = f q) (hF1 : ∀ q, q = 4 ∨ q = 5 ∨ q = 16 → F1 q = f1 q) (hn : CMS D a b (F 18) (F1 24)) (hw : ∀ m, m < a → F 18 (6 + m) = -1 ∨ ∃ c, c < b ∧ F 18 (6 + m) = nI c) : ∃ F' : Nat → Nat → Int32, (∀ q, q ≠ 13 → q ≠ 14 → q ≠ 18 → F' q = F q) ∧ (∀ k, ¬ (6 ≤ k ∧ k < 6 + a) → F' 18 k = F 18 k) ∧ (∀ m, m < a → F' 18 (6 + m) = if shB (v 33) (yI NF v1 F1 w1 g) (F 18) m = true then -1 else F 18 (6 + m)) ∧ gsX_X1_passDay_2_L21 NF v (4294967296 + NF) 0 0 v F = (nI (bts (shB (v 33) (yI NF v1 F1 w1 g) (F 18)) a), v, F') := by
  refine lpQ (S := Int32 × SX) (fun fu i s => gsX_X1_passDay_2_L21 NF v fu s.1 i s.2.1 s.2.2) (fun r => ∃ F' : Nat → Nat → Int32, (∀ q, q ≠ 13 → q ≠ 14 → q ≠ 18 → F' q = F q) ∧ (∀ k, ¬ (6 ≤ k ∧ k < 6 + a) → F' 18 k = F 18 k) ∧ (∀ m, m < a → F' 18 (6 + m) = if shB (v 33) (yI NF v1 F1 w1 g) (F 18) m = true then -1 else F 18 (6 + m)) ∧ r = (nI (bts (shB (v 33) (yI NF v1 F1 w1 g) (F 18)) a), v, F')) (fun j s => ∃ F' : Nat → Nat → Int32, s = (nI (bts (shB (v 33) (yI NF v1 F1 w1 g) (F 18)) j), v, F') ∧ (∀ q, q ≠ 13 → q ≠ 14 → q ≠ 18 → F' q = F q) ∧ (∀ k, ¬ (6 ≤ k ∧ k < 6 + j) → F' 18 k = F 18 k) ∧ (∀ m, m < j → F' 18 (6 + m) = if shB (v 33) (yI NF v1 F1 w1 g) (F 18) m = true then -1 else F 18 (6 + m))) a ?_ ?_ a 0 (4294967296 + NF) (0, v, F) (by omega) (by omega) ⟨F, rfl, fun q _ _ _ => rfl, fun i _ => rfl, fun k hk => absurd hk (Nat.not_lt_zero _)⟩
  · intro fu j s hj hs
    obtain ⟨y, rfl, hY, hO, hK⟩ := hs
    obtain ⟨o1, o2⟩ := bts_or (p := shB (v 33) (yI NF v1 F1 w1 g) (F 18)) (n := j) (by omega)
    have yw : gsX_X1_wears_2 NF (nI j) v y = F 18 (6 + j) := (xWears12 a1 a3 hj).trans (hO (6 + j) (by omega))
    rcases hw j hj with q2 | ⟨c, hc, q2⟩
    · have w0 := wrB_0 q2
      have s0 : ¬ shB (v 33) (yI NF v1 F1 w1 g) (F 18) j = true := by unfold shB; rw [w0, Bool.false_and]; decide
      refine Or.inl ⟨(nI (bts (shB (v 33) (yI NF v1 F1 w1 g) (F 18)) (j + 1)), v, y), ⟨y, rfl, hY, fun k hk => hO k (by omega), fun m hm => ?_⟩, ?_⟩
      · by_cases e : m = j
        · rw [e, if_neg s0]; exact hO _ (by omega)
        · exact hK m (by omega)
      · show gsX_X1_passDay_2_L21 NF v (fu + 1) (nI (bts (shB (v 33) (yI NF v1 F1 w1 g) (F 18)) j)) (nI j) v y = gsX_X1_passDay_2_L21 NF v fu (nI (bts (shB (v 33) (yI NF v1 F1 w1 g) (F 18)) (j + 1))) (nI (j + 1)) v y
        rw [← (o2 s0).2]
        conv => lhs; unfold gsX_X1_passDay_2_L21
        simp only [a1, yw, q2, nI_1]
        rw [if_neg (show ¬ nI a ≤ nI j from nI_ge hj (by omega)), if_pos trivial]
    · have w1' := wrB_1 (x := F 18) (m := j) (by rw [q2]; exact nI_nm1 (by omega))
      have ec : nv (F 18 (6 + j)) = c := by rw [q2]; exact nv_nI (by omega)
      have nm : ¬ nI c = -1 := nI_nm1 (by omega)
      have hn' : CMS D a b (y 18) (F1 24) := hn.cg a3 b3 (fun k hk => hO k (by omega)) (fun k _ => rfl)
      obtain ⟨B, i1, i2, i3⟩ := fitX2 (NF := NF) (v1 := v1) (F1 := F1) (w1 := w1) (g := g) a1 a3 b1 b3 sm sf hD (fun q hq => (hY q (by omega) (by omega) (by omega)).trans (hF q hq)) hF1 hn' hj hc
      have ef : shB (v 33) (yI NF v1 F1 w1 g) (F 18) j = !decide (¬ v 33 < yI NF v1 F1 w1 g j c) := by
        unfold shB ftB; rw [w1', ec, Bool.true_and, Bool.true_and]
      by_cases z : v 33 < yI NF v1 F1 w1 g j c
      · have s1 : shB (v 33) (yI NF v1 F1 w1 g) (F 18) j = true := by rw [ef, decide_eq_false (fun q => q z)]; decide
        rw [if_pos z] at i2
        have sw : gsX_X1_setWears_2 NF (nI j) (-1) v B = (v, upd2 B 18 (upd (B 18) (6 + j) (-1))) := xSetW12 a1 a3 hj
        have bA : B 18 = y 18 := i3 18 (by decide) (by decide)
        refine Or.inl ⟨(nI (bts (shB (v 33) (yI NF v1 F1 w1 g) (F 18)) (j + 1)), v, upd2 B 18 (upd (B 18) (6 + j) (-1))), ⟨_, rfl, fun q z1 z2 z3 => (u2n z3).trans ((i3 q z1 z2).trans (hY q z1 z2 z3)), fun k hk => ?_, fun m hm => ?_⟩, ?_⟩
        · show upd (B 18) (6 + j) (-1) k = _
          rw [pk_un (by omega), bA]; exact hO k (by omega)
        · show upd (B 18) (6 + j) (-1) (6 + m) = _
          by_cases e : m = j
          · rw [e, pk_us, if_pos s1]
          · rw [pk_un (by omega), bA]; exact hK m (by omega)
        · show gsX_X1_passDay_2_L21 NF v (fu + 1) (nI (bts (shB (v 33) (yI NF v1 F1 w1 g) (F 18)) j)) (nI j) v y = gsX_X1_passDay_2_L21 NF v fu (nI (bts (shB (v 33) (yI NF v1 F1 w1 g) (F 18)) (j + 1))) (nI (j + 1)) v _
          rw [← o1 s1]
          conv => lhs; unfold gsX_X1_passDay_2_L21
          simp only [a1, yw, q2, nI_1, if_neg nm, i2, ite01, sw]
          rw [if_neg (show ¬ nI a ≤ nI j from nI_ge hj (by omega))]
      · have s0 : ¬ shB (v 33) (yI NF v1 F1 w1 g) (F 18) j = true := by rw [ef, decide_eq_true z]; decide
        rw [if_neg z] at i2
        have bA : B 18 = y 18 := i3 18 (by decide) (by decide)
        refine Or.inl ⟨(nI (bts (shB (v 33) (yI NF v1 F1 w1 g) (F 18)) (j + 1)), v, B), ⟨B, rfl, fun q z1 z2 z3 => (i3 q z1 z2).trans (hY q z1 z2 z3), fun k hk => by rw [bA]; exact hO k (by omega), fun m hm => ?_⟩, ?_⟩
        · rw [bA]
          by_cases e : m = j
          · rw [e, if_neg s0]; exact hO _ (by omega)
          · exact hK m (by omega)
        · show gsX_X1_passDay_2_L21 NF v (fu + 1) (nI (bts (shB (v 33) (yI NF v1 F1 w1 g) (F 18)) j)) (nI j) v y = gsX_X1_passDay_2_L21 NF v fu (nI (bts (shB (v 33) (yI NF v1 F1 w1 g) (F 18)) (j + 1))) (nI (j + 1)) v B
          rw [← (o2 s0).2]
          conv => lhs; unfold gsX_X1_passDay_2_L21
          simp only [a1, yw, q2, nI_1, if_neg nm, i2, ite11, if_true]
          rw [if_neg (show ¬ nI a ≤ nI j from nI_ge hj (by omega))]
  · intro fu s hs
    obtain ⟨y, rfl, hY, hO, hK⟩ := hs
    refine ⟨y, hY, hO, hK, ?_⟩
    show gsX_X1_passDay_2_L21 NF v (fu + 1) (nI (bts (shB (v 33) (yI NF v1 F1 w1 g) (F 18)) a)) (nI a) v y = _
    simp only [gsX_X1_passDay_2_L21, a1]
    rw [if_pos (nI_le (Nat.le_refl _) (by omega))]
theorem xShed2_62 {v : Nat → Int32} {f F : Nat → Nat → Int32} {v1 : Nat → Int32} {f1 F1 : Nat → Nat → Int32} {w1 : Int64} {g : Nat → Int64} {a b D : Nat} (a1 : v 31 = nI a) (a3 : a ≤ 6) (b1 : v 32 = nI b) (b3 : b ≤ 6) (sm : STM f f1 a) (sf : STF v f v1 f1) (hD : D ≤ 9999) (hF : ∀ q, q = 9 ∨ q = 11 ∨ q = 12 → F q = f q) (hF1 : ∀ q, q = 4 ∨ q = 5 ∨ q = 16 → F1 q = f1 q) (hn : CMS D a b (F 18) (F1 24)) (hw : ∀ m, m < a → F 18 (6 + m) = -1 ∨ ∃ c, c < b ∧ F 18 (6 + m) = nI c) : ∃ F' : Nat → Nat → Int32, (∀ q, q ≠ 13 → q ≠ 14 → q ≠ 18 → F' q = F q) ∧ (∀ k, ¬ (6 ≤ k ∧ k < 6 + a) → F' 18 k = F 18 k) ∧ (∀ m, m < a → F' 18 (6 + m) = if shB (v 33) (yI NF v1 F1 w1 g) (F 18) m = true then -1 else F 18 (6 + m)) ∧ gsX_X1_passDay_2_L62 NF v (4294967296 + NF) 0 0 v F = (nI (bts (shB (v 33) (yI NF v1 F1 w1 g) (F 18)) a), v, F') := by
  refine lpQ (S := Int32 × SX) (fun fu i s => gsX_X1_passDay_2_L62 NF v fu s.1 i s.2.1 s.2.2) (fun r => ∃ F' : Nat → Nat → Int32, (∀ q, q ≠ 13 → q ≠ 14 → q ≠ 18 → F' q = F q) ∧ (∀ k, ¬ (6 ≤ k ∧ k < 6 + a) → F' 18 k = F 18 k) ∧ (∀ m, m < a → F' 18 (6 + m) = if shB (v 33) (yI NF v1 F1 w1 g) (F 18) m = true then -1 else F 18 (6 + m)) ∧ r = (nI (bts (shB (v 33) (yI NF v1 F1 w1 g) (F 18)) a), v, F')) (fun j s => ∃ F' : Nat → Nat → Int32, s = (nI (bts (shB (v 33) (yI NF v1 F1 w1 g) (F 18)) j), v, F') ∧ (∀ q, q ≠ 13 → q ≠ 14 → q ≠ 18 → F' q = F q) ∧ (∀ k, ¬ (6 ≤ k ∧ k < 6 + j) → F' 18 k = F 18 k) ∧ (∀ m, m < j → F' 18 (6 + m) = if shB (v 33) (yI NF v1 F1 w1 g) (F 18) m = true then -1 else F 18 (6 + m))) a ?_ ?_ a 0 (4294967296 + NF) (0, v, F) (by omega) (by omega) ⟨F, rfl, fun q _ _ _ => rfl, fun i _ => rfl, fun k hk => absurd hk (Nat.not_lt_zero _)⟩
  · intro fu j s hj hs
    obtain ⟨y, rfl, hY, hO, hK⟩ := hs
    obtain ⟨o1, o2⟩ := bts_or (p := shB (v 33) (yI NF v1 F1 w1 g) (F 18)) (n := j) (by omega)
    have yw : gsX_X1_wears_2 NF (nI j) v y = F 18 (6 + j) := (xWears12 a1 a3 hj).trans (hO (6 + j) (by omega))
    rcases hw j hj with q2 | ⟨c, hc, q2⟩
    · have w0 := wrB_0 q2
      have s0 : ¬ shB (v 33) (yI NF v1 F1 w1 g) (F 18) j = true := by unfold shB; rw [w0, Bool.false_and]; decide
      refine Or.inl ⟨(nI (bts (shB (v 33) (yI NF v1 F1 w1 g) (F 18)) (j + 1)), v, y), ⟨y, rfl, hY, fun k hk => hO k (by omega), fun m hm => ?_⟩, ?_⟩
      · by_cases e : m = j
        · rw [e, if_neg s0]; exact hO _ (by omega)
        · exact hK m (by omega)
      · show gsX_X1_passDay_2_L62 NF v (fu + 1) (nI (bts (shB (v 33) (yI NF v1 F1 w1 g) (F 18)) j)) (nI j) v y = gsX_X1_passDay_2_L62 NF v fu (nI (bts (shB (v 33) (yI NF v1 F1 w1 g) (F 18)) (j + 1))) (nI (j + 1)) v y
        rw [← (o2 s0).2]
        conv => lhs; unfold gsX_X1_passDay_2_L62
        simp only [a1, yw, q2, nI_1]
        rw [if_neg (show ¬ nI a ≤ nI j from nI_ge hj (by omega)), if_pos trivial]
    · have w1' := wrB_1 (x := F 18) (m := j) (by rw [q2]; exact nI_nm1 (by omega))
      have ec : nv (F 18 (6 + j)) = c := by rw [q2]; exact nv_nI (by omega)
      have nm : ¬ nI c = -1 := nI_nm1 (by omega)
      have hn' : CMS D a b (y 18) (F1 24) := hn.cg a3 b3 (fun k hk => hO k (by omega)) (fun k _ => rfl)
      obtain ⟨B, i1, i2, i3⟩ := fitX2 (NF := NF) (v1 := v1) (F1 := F1) (w1 := w1) (g := g) a1 a3 b1 b3 sm sf hD (fun q hq => (hY q (by omega) (by omega) (by omega)).trans (hF q hq)) hF1 hn' hj hc
      have ef : shB (v 33) (yI NF v1 F1 w1 g) (F 18) j = !decide (¬ v 33 < yI NF v1 F1 w1 g j c) := by
        unfold shB ftB; rw [w1', ec, Bool.true_and, Bool.true_and]
      by_cases z : v 33 < yI NF v1 F1 w1 g j c
      · have s1 : shB (v 33) (yI NF v1 F1 w1 g) (F 18) j = true := by rw [ef, decide_eq_false (fun q => q z)]; decide
        rw [if_pos z] at i2
        have sw : gsX_X1_setWears_2 NF (nI j) (-1) v B = (v, upd2 B 18 (upd (B 18) (6 + j) (-1))) := xSetW12 a1 a3 hj
        have bA : B 18 = y 18 := i3 18 (by decide) (by decide)
        refine Or.inl ⟨(nI (bts (shB (v 33) (yI NF v1 F1 w1 g) (F 18)) (j + 1)), v, upd2 B 18 (upd (B 18) (6 + j) (-1))), ⟨_, rfl, fun q z1 z2 z3 => (u2n z3).trans ((i3 q z1 z2).trans (hY q z1 z2 z3)), fun k hk => ?_, fun m hm => ?_⟩, ?_⟩
        · show upd (B 18) (6 + j) (-1) k = _
          rw [pk_un (by omega), bA]; exact hO k (by omega)
        · show upd (B 18) (6 + j) (-1) (6 + m) = _
          by_cases e : m = j
          · rw [e, pk_us, if_pos s1]
          · rw [pk_un (by omega), bA]; exact hK m (by omega)
        · show gsX_X1_passDay_2_L62 NF v (fu + 1) (nI (bts (shB (v 33) (yI NF v1 F1 w1 g) (F 18)) j)) (nI j) v y = gsX_X1_passDay_2_L62 NF v fu (nI (bts (shB (v 33) (yI NF v1 F1 w1 g) (F 18)) (j + 1))) (nI (j + 1)) v _
          rw [← o1 s1]
          conv => lhs; unfold gsX_X1_passDay_2_L62
          simp only [a1, yw, q2, nI_1, if_neg nm, i2, ite01, sw]
          rw [if_neg (show ¬ nI a ≤ nI j from nI_ge hj (by omega))]
      · have s0 : ¬ shB (v 33) (yI NF v1 F1 w1 g) (F 18) j = true := by rw [ef, decide_eq_true z]; decide
        rw [if_neg z] at i2
        have bA : B 18 = y 18 := i3 18 (by decide) (by decide)
        refine Or.inl ⟨(nI (bts (shB (v 33) (yI NF v1 F1 w1 g) (F 18)) (j + 1)), v, B), ⟨B, rfl, fun q z1 z2 z3 => (i3 q z1 z2).trans (hY q z1 z2 z3), fun k hk => by rw [bA]; exact hO k (by omega), fun m hm => ?_⟩, ?_⟩
        · rw [bA]
          by_cases e : m = j
          · rw [e, if_neg s0]; exact hO _ (by omega)
          · exact hK m (by omega)
        · show gsX_X1_passDay_2_L62 NF v (fu + 1) (nI (bts (shB (v 33) (yI NF v1 F1 w1 g) (F 18)) j)) (nI j) v y = gsX_X1_passDay_2_L62 NF v fu (nI (bts (shB (v 33) (yI NF v1 F1 w1 g) (F 18)) (j + 1))) (nI (j + 1)) v B
          rw [← (o2 s0).2]
          conv => lhs; unfold gsX_X1_passDay_2_L62
          simp only [a1, yw, q2, nI_1, if_neg nm, i2, ite11, if_true]
          rw [if_neg (show ¬ nI a ≤ nI j from nI_ge hj (by omega))]
  · intro fu s hs
    obtain ⟨y, rfl, hY, hO, hK⟩ := hs
    refine ⟨y, hY, hO, hK, ?_⟩
    show gsX_X1_passDay_2_L62 NF v (fu + 1) (nI (bts (shB (v 33) (yI NF v1 F1 w1 g) (F 18)) a)) (nI a) v y = _
    simp only [gsX_X1_passDay_2_L62, a1]
    rw [if_pos (nI_le (Nat.le_refl _) (by omega))]
end
section
variable {NF : Nat}
theorem dayB2_0 {v : Nat → Int32} {f F : Nat → Nat → Int32} {v1 : Nat → Int32} {f1 F1 : Nat → Nat → Int32} {w1 : Int64} {g : Nat → Int64} {a b D : Nat} {p1 : Int32} (a1 : v 31 = nI a) (a2 : v1 24 = nI a) (a3 : a ≤ 6) (b1 : v 32 = nI b) (b2 : v1 25 = nI b) (b3 : b ≤ 6) (sm : STM f f1 a) (sf : STF v f v1 f1) (es : v 33 = v1 26) (hD : D + 1 ≤ 9999) (hF : ∀ q, q = 9 ∨ q = 11 ∨ q = 12 → F q = f q) (hF1 : ∀ q, q = 4 ∨ q = 5 ∨ q = 16 ∨ q = 18 → F1 q = f1 q) (hn : NWS D a b (F 18) (F1 24)) (hp :  p1 ≤ dr2 (F 18 43)) : ∃ (r : Int32) (F' F1' : Nat → Nat → Int32), gsX_X1_passDay_2 NF p1 v F = (r, v, F') ∧ gsY_X11_goDay_1 NF (nI 0) v1 F1 w1 g = (r, v1, F1', w1, g) ∧ (∀ q, q ≠ 13 → q ≠ 14 → q ≠ 18 → F' q = F q) ∧ (∀ q, q ≠ 7 → q ≠ 8 → q ≠ 24 → F1' q = F1 q) ∧ NWS (D + 1) a b (F' 18) (F1' 24) ∧ F' 18 43 = dr1 (F 18 43) ∧ F1' 24 38 = F1 24 38 := by
  obtain ⟨h1, h2, h3, h4, h6⟩ := hn.o a3 b3
  have hG : ∀ m, m < a → NBx 9 (F 9 (12 + m)) := fun m hm => by
    rw [hF 9 (Or.inl rfl)]
    exact NBx.of (n := 9) rfl (by decide) (sm m hm).2.2.2.2.2
  have hG1 : ∀ m, m < a → F1 18 m = F 9 (12 + m) := fun m hm => by
    rw [hF 9 (Or.inl rfl), hF1 18 (by omega)]
    exact (sm m hm).2.2.1.symm
  obtain ⟨A, x1, x2, x3, x4⟩ := xGrow2 (NF := NF) (p1 := p1) a1 a3 (fun m hm => (h1 m hm).2.1) hG
  obtain ⟨B, y1, y2, y3, y4⟩ := yGrow (NF := NF) (F1 := F1) (w1 := w1) (g := g) (p1 := nI 0) a2 a3 (fun m hm => by rw [← (h1 m hm).1]; exact (h1 m hm).2.1) (fun m hm => by rw [hG1 m hm]; exact hG m hm)
  have A43 : A 18 43 = F 18 43 := x2 43 (by omega)
  rw [A43] at x4
  generalize hQ : upd2 A 18 (upd (A 18) 43 (dr1 (F 18 43))) = Q at x4
  have qk : ∀ k, k ≠ 43 → Q 18 k = A 18 k := fun k hk => by rw [← hQ, u2s, pk_un hk]
  have q43 : Q 18 43 = dr1 (F 18 43) := by rw [← hQ, u2s, pk_us]
  have qw : ∀ m, m < a → Q 18 (6 + m) = F 18 (6 + m) := fun m hm => (qk _ (by omega)).trans (x2 _ (by omega))
  have qc : ∀ k, 12 ≤ k → k ≠ 43 → Q 18 k = F 18 k := fun k h1 h2 => (qk _ h2).trans (x2 _ (by omega))
  have qF : ∀ q, q ≠ 18 → Q q = F q := fun q hq => by rw [← hQ]; exact (u2n hq).trans (x1 q hq)
  have hwQ : ∀ m, m < a → Q 18 (6 + m) = -1 ∨ ∃ c, c < b ∧ Q 18 (6 + m) = nI c := fun m hm => by rw [qw m hm]; exact (h1 m hm).2.2.2
  have hiQ : ∀ m m', m < a → m' < a → Q 18 (6 + m) = Q 18 (6 + m') → ¬ Q 18 (6 + m) = -1 → m = m' := fun m m' hm hm' => by rw [qw m hm, qw m' hm']; exact h6 m m' hm hm'
  have hNQ : ∀ c, c < b → NBx 99 (Q 18 (12 + c)) ∧ NBx 99 (Q 18 (18 + c)) ∧ NBx 99 (Q 18 (30 + c)) := fun c hc => by
    rw [qc _ (by omega) (by omega), qc _ (by omega) (by omega), qc _ (by omega) (by omega)]
    exact ⟨(h2 c hc).1.2, (h2 c hc).2.1.2, (h2 c hc).2.2.2.2⟩
  have bw : ∀ m, m < a → B 24 (6 + m) = F1 24 (6 + m) := fun m hm => y2 _ (by omega)
  have hNB : ∀ c, c < b → NBx 99 (B 24 (12 + c)) ∧ NBx 99 (B 24 (18 + c)) ∧ NBx 99 (B 24 (30 + c)) := fun c hc => by
    rw [y2 _ (by omega), y2 _ (by omega), y2 _ (by omega), ← (h2 c hc).1.1, ← (h2 c hc).2.1.1, ← (h2 c hc).2.2.2.1]
    exact ⟨(h2 c hc).1.2, (h2 c hc).2.1.2, (h2 c hc).2.2.2.2⟩
  obtain ⟨E, e1, ⟨e2, e3⟩, e4⟩ := yWeat (NF := NF) (F1 := B) (w1 := w1) (g := g) (z := 0) (by decide) a2 a3 b2 b3 hNB
  generalize hY : upd2 E 24 (upd (E 24) 37 (E 24 37 + 1)) = Y at e4
  have yk : ∀ k, k ≠ 37 → Y 24 k = E 24 k := fun k hk => by rw [← hY, u2s, pk_un hk]
  have yF : ∀ q, q ≠ 24 → Y q = F1 q := fun q hq => by rw [← hY]; exact (u2n hq).trans ((e1 q hq).trans (y1 q hq))
  have y24 : ∀ k, (6 ≤ k ∧ k < 12) ∨ (24 ≤ k ∧ k < 30) ∨ k = 36 ∨ k = 38 → Y 24 k = F1 24 k := fun k hk => (yk k (by omega)).trans ((e2 k (by omega)).trans (y2 k (by omega)))
  obtain ⟨M, m1, ⟨m2, m3⟩, m4⟩ := xWeat2_0 (NF := NF) (F := Q) a1 a3 b1 b3 hwQ hiQ hNQ
  rw [if_pos hp, m4] at x4
  clear m4
  generalize hX : upd2 M 18 (upd (M 18) 42 (M 18 42 + 1)) = X at x4
  have xk : ∀ k, k ≠ 42 → X 18 k = M 18 k := fun k hk => by rw [← hX, u2s, pk_un hk]
  have xF : ∀ q, q ≠ 18 → X q = F q := fun q hq => by rw [← hX]; exact (u2n hq).trans ((m1 q hq).trans (qF q hq))
  have hday : NWS (D + 1) a b (X 18) (Y 24) := by
    refine NWS.day (x := F 18) (y := F1 24) (gx := fun m => F 9 (12 + m)) a3 b3 (z := 0) (by decide) (by omega) hn (fun m hm => ?_) (fun m hm => ?_) (fun k k1 k2 => ?_) (fun k k1 k2 => ?_) (fun c hc => ?_) (fun c hc => ?_) ?_ ?_
    · rw [xk m (by omega), m2 m (by omega), qk m (by omega)]; exact x3 m hm
    · rw [yk m (by omega), e2 m (by omega), y3 m hm, hG1 m hm]
    · rw [xk k (by omega), m2 k (by omega), qk k (by omega)]; exact x2 k (by omega)
    · exact y24 k (by omega)
    · have pc : (∃ m, m < a ∧ Q 18 (6 + m) = nI c) ↔ ∃ m, m < a ∧ F 18 (6 + m) = nI c := ⟨fun ⟨m, hm, em⟩ => ⟨m, hm, (qw m hm).symm.trans em⟩, fun ⟨m, hm, em⟩ => ⟨m, hm, (qw m hm).trans em⟩⟩
      have q := m3 c hc
      rw [qc (12 + c) (by omega) (by omega), qc (18 + c) (by omega) (by omega), qc (30 + c) (by omega) (by omega)] at q
      rw [xk (12 + c) (by omega), xk (18 + c) (by omega), xk (30 + c) (by omega)]
      exact ⟨fun h => q.1 (pc.mpr h), fun h => q.2 (fun h' => h (pc.mp h'))⟩
    · have pc : (∃ m, m < a ∧ B 24 (6 + m) = nI c) ↔ ∃ m, m < a ∧ F1 24 (6 + m) = nI c := ⟨fun ⟨m, hm, em⟩ => ⟨m, hm, (bw m hm).symm.trans em⟩, fun ⟨m, hm, em⟩ => ⟨m, hm, (bw m hm).trans em⟩⟩
      have q := e3 c hc
      rw [y2 (12 + c) (by omega), y2 (18 + c) (by omega), y2 (30 + c) (by omega)] at q
      rw [yk (12 + c) (by omega), yk (18 + c) (by omega), yk (30 + c) (by omega)]
      exact ⟨fun h => q.1 (pc.mpr h), fun h => q.2 (fun h' => h (pc.mp h'))⟩
    · rw [← hX, u2s, pk_us, m2 42 (by omega), qc 42 (by omega) (by omega)]
    · rw [← hY, u2s, pk_us, e2 37 (by omega), y2 37 (by omega)]
  obtain ⟨d1, d2, d3, d4, d6⟩ := hday.o a3 b3
  have cms := hday.cms a3 b3
  obtain ⟨Z, z1, z2, z3, z4⟩ := xShed2_21 (NF := NF) (v := v) (F := X) (v1 := v1) (F1 := Y) (w1 := w1) (g := g) a1 a3 b1 b3 sm sf hD (fun q hq => (xF q (by omega)).trans (hF q hq)) (fun q hq => (yF q (by omega)).trans (hF1 q (by omega))) cms (fun m hm => (d1 m hm).2.2.2)
  have hwY : ∀ m, m < a → Y 24 (6 + m) = X 18 (6 + m) ∧ (X 18 (6 + m) = -1 ∨ ∃ c, c < b ∧ X 18 (6 + m) = nI c) := fun m hm => ⟨(d1 m hm).2.2.1.symm, (d1 m hm).2.2.2⟩
  have wr := yWearers (NF := NF) (F1 := Y) (w1 := w1) (g := g) a2 a3 hwY b3
  obtain ⟨K, k1, k2⟩ := yFitted (NF := NF) (F1 := Y) (w1 := w1) (g := g) a1 a2 a3 b1 b3 sm sf es hD (fun q hq => (yF q (by omega)).trans (hF1 q (by omega))) cms hwY
  have an := bts_and (wrB (X 18)) (ftB (v 33) (yI NF v1 Y w1 g) (X 18)) a3
  have an : nI (bts (wrB (X 18)) a) &&& (nI (bts (ftB (v 33) (yI NF v1 Y w1 g) (X 18)) a) ^^^ (-1)) = nI (bts (shB (v 33) (yI NF v1 Y w1 g) (X 18)) a) := an
  obtain ⟨L, l1, l2, l3, l4⟩ := yShed (NF := NF) (F1 := K) (w1 := w1) (g := g) (p := shB (v 33) (yI NF v1 Y w1 g) (X 18)) a2 a3 a2
  have k24 : K 24 = Y 24 := k1 24 (by decide) (by decide)
  refine ⟨nI (bts (shB (v 33) (yI NF v1 Y w1 g) (X 18)) a), Z, L, x4.trans z4, ?_, fun q q1 q2 q3 => (z1 q q1 q2 q3).trans (xF q q3), fun q q1 q2 q3 => (l1 q q3).trans ((k1 q q1 q2).trans (yF q q3)), ?_, ?_, ?_⟩
  · rw [y4, e4]
    unfold yAft
    rw [k2]
    show gsY_X11_goDay_1_L22 NF v1 (gsY_X11_wearers_1 NF v1 Y w1 g &&& (nI (bts (ftB (v 33) (yI NF v1 Y w1 g) (X 18)) a) ^^^ (-1))) (4294967296 + NF) 0 v1 K w1 g = _
    rw [wr, an, l4]
  · refine hday.shed a3 b3 (p := shB (v 33) (yI NF v1 Y w1 g) (X 18)) z2 (fun k hk => ?_) z3 (fun m hm => ?_)
    · rw [l2 k hk, k24]
    · rw [l3 m hm, k24]
  · rw [z2 43 (by omega), xk 43 (by decide), m2 43 (by omega), q43]
  · rw [l2 38 (by omega), k24, y24 38 (by omega)]
theorem dayB2_1 {v : Nat → Int32} {f F : Nat → Nat → Int32} {v1 : Nat → Int32} {f1 F1 : Nat → Nat → Int32} {w1 : Int64} {g : Nat → Int64} {a b D : Nat} {p1 : Int32} (a1 : v 31 = nI a) (a2 : v1 24 = nI a) (a3 : a ≤ 6) (b1 : v 32 = nI b) (b2 : v1 25 = nI b) (b3 : b ≤ 6) (sm : STM f f1 a) (sf : STF v f v1 f1) (es : v 33 = v1 26) (hD : D + 1 ≤ 9999) (hF : ∀ q, q = 9 ∨ q = 11 ∨ q = 12 → F q = f q) (hF1 : ∀ q, q = 4 ∨ q = 5 ∨ q = 16 ∨ q = 18 → F1 q = f1 q) (hn : NWS D a b (F 18) (F1 24)) (hp : ¬ p1 ≤ dr2 (F 18 43)) : ∃ (r : Int32) (F' F1' : Nat → Nat → Int32), gsX_X1_passDay_2 NF p1 v F = (r, v, F') ∧ gsY_X11_goDay_1 NF (nI 1) v1 F1 w1 g = (r, v1, F1', w1, g) ∧ (∀ q, q ≠ 13 → q ≠ 14 → q ≠ 18 → F' q = F q) ∧ (∀ q, q ≠ 7 → q ≠ 8 → q ≠ 24 → F1' q = F1 q) ∧ NWS (D + 1) a b (F' 18) (F1' 24) ∧ F' 18 43 = dr1 (F 18 43) ∧ F1' 24 38 = F1 24 38 := by
  obtain ⟨h1, h2, h3, h4, h6⟩ := hn.o a3 b3
  have hG : ∀ m, m < a → NBx 9 (F 9 (12 + m)) := fun m hm => by
    rw [hF 9 (Or.inl rfl)]
    exact NBx.of (n := 9) rfl (by decide) (sm m hm).2.2.2.2.2
  have hG1 : ∀ m, m < a → F1 18 m = F 9 (12 + m) := fun m hm => by
    rw [hF 9 (Or.inl rfl), hF1 18 (by omega)]
    exact (sm m hm).2.2.1.symm
  obtain ⟨A, x1, x2, x3, x4⟩ := xGrow2 (NF := NF) (p1 := p1) a1 a3 (fun m hm => (h1 m hm).2.1) hG
  obtain ⟨B, y1, y2, y3, y4⟩ := yGrow (NF := NF) (F1 := F1) (w1 := w1) (g := g) (p1 := nI 1) a2 a3 (fun m hm => by rw [← (h1 m hm).1]; exact (h1 m hm).2.1) (fun m hm => by rw [hG1 m hm]; exact hG m hm)
  have A43 : A 18 43 = F 18 43 := x2 43 (by omega)
  rw [A43] at x4
  generalize hQ : upd2 A 18 (upd (A 18) 43 (dr1 (F 18 43))) = Q at x4
  have qk : ∀ k, k ≠ 43 → Q 18 k = A 18 k := fun k hk => by rw [← hQ, u2s, pk_un hk]
  have q43 : Q 18 43 = dr1 (F 18 43) := by rw [← hQ, u2s, pk_us]
  have qw : ∀ m, m < a → Q 18 (6 + m) = F 18 (6 + m) := fun m hm => (qk _ (by omega)).trans (x2 _ (by omega))
  have qc : ∀ k, 12 ≤ k → k ≠ 43 → Q 18 k = F 18 k := fun k h1 h2 => (qk _ h2).trans (x2 _ (by omega))
  have qF : ∀ q, q ≠ 18 → Q q = F q := fun q hq => by rw [← hQ]; exact (u2n hq).trans (x1 q hq)
  have hwQ : ∀ m, m < a → Q 18 (6 + m) = -1 ∨ ∃ c, c < b ∧ Q 18 (6 + m) = nI c := fun m hm => by rw [qw m hm]; exact (h1 m hm).2.2.2
  have hiQ : ∀ m m', m < a → m' < a → Q 18 (6 + m) = Q 18 (6 + m') → ¬ Q 18 (6 + m) = -1 → m = m' := fun m m' hm hm' => by rw [qw m hm, qw m' hm']; exact h6 m m' hm hm'
  have hNQ : ∀ c, c < b → NBx 99 (Q 18 (12 + c)) ∧ NBx 99 (Q 18 (18 + c)) ∧ NBx 99 (Q 18 (30 + c)) := fun c hc => by
    rw [qc _ (by omega) (by omega), qc _ (by omega) (by omega), qc _ (by omega) (by omega)]
    exact ⟨(h2 c hc).1.2, (h2 c hc).2.1.2, (h2 c hc).2.2.2.2⟩
  have bw : ∀ m, m < a → B 24 (6 + m) = F1 24 (6 + m) := fun m hm => y2 _ (by omega)
  have hNB : ∀ c, c < b → NBx 99 (B 24 (12 + c)) ∧ NBx 99 (B 24 (18 + c)) ∧ NBx 99 (B 24 (30 + c)) := fun c hc => by
    rw [y2 _ (by omega), y2 _ (by omega), y2 _ (by omega), ← (h2 c hc).1.1, ← (h2 c hc).2.1.1, ← (h2 c hc).2.2.2.1]
    exact ⟨(h2 c hc).1.2, (h2 c hc).2.1.2, (h2 c hc).2.2.2.2⟩
  obtain ⟨E, e1, ⟨e2, e3⟩, e4⟩ := yWeat (NF := NF) (F1 := B) (w1 := w1) (g := g) (z := 1) (by decide) a2 a3 b2 b3 hNB
  generalize hY : upd2 E 24 (upd (E 24) 37 (E 24 37 + 1)) = Y at e4
  have yk : ∀ k, k ≠ 37 → Y 24 k = E 24 k := fun k hk => by rw [← hY, u2s, pk_un hk]
  have yF : ∀ q, q ≠ 24 → Y q = F1 q := fun q hq => by rw [← hY]; exact (u2n hq).trans ((e1 q hq).trans (y1 q hq))
  have y24 : ∀ k, (6 ≤ k ∧ k < 12) ∨ (24 ≤ k ∧ k < 30) ∨ k = 36 ∨ k = 38 → Y 24 k = F1 24 k := fun k hk => (yk k (by omega)).trans ((e2 k (by omega)).trans (y2 k (by omega)))
  obtain ⟨M, m1, ⟨m2, m3⟩, m4⟩ := xWeat2_1 (NF := NF) (F := Q) a1 a3 b1 b3 hwQ hiQ hNQ
  rw [if_neg hp, m4] at x4
  clear m4
  generalize hX : upd2 M 18 (upd (M 18) 42 (M 18 42 + 1)) = X at x4
  have xk : ∀ k, k ≠ 42 → X 18 k = M 18 k := fun k hk => by rw [← hX, u2s, pk_un hk]
  have xF : ∀ q, q ≠ 18 → X q = F q := fun q hq => by rw [← hX]; exact (u2n hq).trans ((m1 q hq).trans (qF q hq))
  have hday : NWS (D + 1) a b (X 18) (Y 24) := by
    refine NWS.day (x := F 18) (y := F1 24) (gx := fun m => F 9 (12 + m)) a3 b3 (z := 1) (by decide) (by omega) hn (fun m hm => ?_) (fun m hm => ?_) (fun k k1 k2 => ?_) (fun k k1 k2 => ?_) (fun c hc => ?_) (fun c hc => ?_) ?_ ?_
    · rw [xk m (by omega), m2 m (by omega), qk m (by omega)]; exact x3 m hm
    · rw [yk m (by omega), e2 m (by omega), y3 m hm, hG1 m hm]
    · rw [xk k (by omega), m2 k (by omega), qk k (by omega)]; exact x2 k (by omega)
    · exact y24 k (by omega)
    · have pc : (∃ m, m < a ∧ Q 18 (6 + m) = nI c) ↔ ∃ m, m < a ∧ F 18 (6 + m) = nI c := ⟨fun ⟨m, hm, em⟩ => ⟨m, hm, (qw m hm).symm.trans em⟩, fun ⟨m, hm, em⟩ => ⟨m, hm, (qw m hm).trans em⟩⟩
      have q := m3 c hc
      rw [qc (12 + c) (by omega) (by omega), qc (18 + c) (by omega) (by omega), qc (30 + c) (by omega) (by omega)] at q
      rw [xk (12 + c) (by omega), xk (18 + c) (by omega), xk (30 + c) (by omega)]
      exact ⟨fun h => q.1 (pc.mpr h), fun h => q.2 (fun h' => h (pc.mp h'))⟩
    · have pc : (∃ m, m < a ∧ B 24 (6 + m) = nI c) ↔ ∃ m, m < a ∧ F1 24 (6 + m) = nI c := ⟨fun ⟨m, hm, em⟩ => ⟨m, hm, (bw m hm).symm.trans em⟩, fun ⟨m, hm, em⟩ => ⟨m, hm, (bw m hm).trans em⟩⟩
      have q := e3 c hc
      rw [y2 (12 + c) (by omega), y2 (18 + c) (by omega), y2 (30 + c) (by omega)] at q
      rw [yk (12 + c) (by omega), yk (18 + c) (by omega), yk (30 + c) (by omega)]
      exact ⟨fun h => q.1 (pc.mpr h), fun h => q.2 (fun h' => h (pc.mp h'))⟩
    · rw [← hX, u2s, pk_us, m2 42 (by omega), qc 42 (by omega) (by omega)]
    · rw [← hY, u2s, pk_us, e2 37 (by omega), y2 37 (by omega)]
  obtain ⟨d1, d2, d3, d4, d6⟩ := hday.o a3 b3
  have cms := hday.cms a3 b3
  obtain ⟨Z, z1, z2, z3, z4⟩ := xShed2_62 (NF := NF) (v := v) (F := X) (v1 := v1) (F1 := Y) (w1 := w1) (g := g) a1 a3 b1 b3 sm sf hD (fun q hq => (xF q (by omega)).trans (hF q hq)) (fun q hq => (yF q (by omega)).trans (hF1 q (by omega))) cms (fun m hm => (d1 m hm).2.2.2)
  have hwY : ∀ m, m < a → Y 24 (6 + m) = X 18 (6 + m) ∧ (X 18 (6 + m) = -1 ∨ ∃ c, c < b ∧ X 18 (6 + m) = nI c) := fun m hm => ⟨(d1 m hm).2.2.1.symm, (d1 m hm).2.2.2⟩
  have wr := yWearers (NF := NF) (F1 := Y) (w1 := w1) (g := g) a2 a3 hwY b3
  obtain ⟨K, k1, k2⟩ := yFitted (NF := NF) (F1 := Y) (w1 := w1) (g := g) a1 a2 a3 b1 b3 sm sf es hD (fun q hq => (yF q (by omega)).trans (hF1 q (by omega))) cms hwY
  have an := bts_and (wrB (X 18)) (ftB (v 33) (yI NF v1 Y w1 g) (X 18)) a3
  have an : nI (bts (wrB (X 18)) a) &&& (nI (bts (ftB (v 33) (yI NF v1 Y w1 g) (X 18)) a) ^^^ (-1)) = nI (bts (shB (v 33) (yI NF v1 Y w1 g) (X 18)) a) := an
  obtain ⟨L, l1, l2, l3, l4⟩ := yShed (NF := NF) (F1 := K) (w1 := w1) (g := g) (p := shB (v 33) (yI NF v1 Y w1 g) (X 18)) a2 a3 a2
  have k24 : K 24 = Y 24 := k1 24 (by decide) (by decide)
  refine ⟨nI (bts (shB (v 33) (yI NF v1 Y w1 g) (X 18)) a), Z, L, x4.trans z4, ?_, fun q q1 q2 q3 => (z1 q q1 q2 q3).trans (xF q q3), fun q q1 q2 q3 => (l1 q q3).trans ((k1 q q1 q2).trans (yF q q3)), ?_, ?_, ?_⟩
  · rw [y4, e4]
    unfold yAft
    rw [k2]
    show gsY_X11_goDay_1_L22 NF v1 (gsY_X11_wearers_1 NF v1 Y w1 g &&& (nI (bts (ftB (v 33) (yI NF v1 Y w1 g) (X 18)) a) ^^^ (-1))) (4294967296 + NF) 0 v1 K w1 g = _
    rw [wr, an, l4]
  · refine hday.shed a3 b3 (p := shB (v 33) (yI NF v1 Y w1 g) (X 18)) z2 (fun k hk => ?_) z3 (fun m hm => ?_)
    · rw [l2 k hk, k24]
    · rw [l3 m hm, k24]
  · rw [z2 43 (by omega), xk 43 (by decide), m2 43 (by omega), q43]
  · rw [l2 38 (by omega), k24, y24 38 (by omega)]
end
section
variable {NF : Nat}
theorem dr2_NB {x : Int32} (h : NBx 999 x) : (0 : Int32) ≤ dr2 x := by
  obtain ⟨s, hs, rfl⟩ := h
  unfold dr2
  rw [dr1_nI hs]
  have e : nI ((s * 137 + 71) % 1000) - nI ((s * 137 + 71) % 1000) / 100 * 100 = nI ((s * 137 + 71) % 1000 % 100) := nI_modI (b := 100) (by omega) (by decide)
  rw [e]
  exact nI_pos' (by omega)
def AHD (D a b : Nat) (f f1 F F1 : Nat → Nat → Int32) : Prop := NWS D a b (F 18) (F1 24) ∧ NBx 999 (F 18 43) ∧ (∀ q, q ≠ 13 → q ≠ 14 → q ≠ 18 → F q = f q) ∧ (∀ q, q ≠ 7 → q ≠ 8 → q ≠ 24 → F1 q = f1 q)
section
variable {v : Nat → Int32} {f F : Nat → Nat → Int32} {v1 : Nat → Int32} {f1 F1 : Nat → Nat → Int32} {w1 : Int64} {g : Nat → Int64} {a b D : Nat}
theorem ahStart (h : FREL v f v1 f1) : ∃ (a b : Nat) (F F1 : Nat → Nat → Int32), v 31 = nI a ∧ v1 24 = nI a ∧ a ≤ 6 ∧ v 32 = nI b ∧ v1 25 = nI b ∧ b ≤ 6 ∧ STM f f1 a ∧ gsX_X1_copy_1 NF v f = (v, F) ∧ gsY_X11_fill_1 NF v1 f1 w1 g = (v1, F1, w1, g) ∧ AHD 999 a b f f1 F F1 ∧ F1 24 38 = F 18 43 := by
  obtain ⟨hr, a, b, a1, a2, a3, b1, b2, b3, sm, sc, nw, ac, bx⟩ := h
  obtain ⟨A, q1, q2, q3⟩ := yFill (NF := NF) (V := v1) (F0 := f1) (W := w1) (G := g)
  have ec : gsX_X1_copy_1 NF v f = (v, upd2 f 18 (va_cpy (f 15) (f 18) 0 0 44)) := by
    simp only [gsX_X1_copy_1, cN0, show (44 : Int32).toNatClampNeg = 44 from by decide]
  have hx : ∀ k, k < 44 → upd2 f 18 (va_cpy (f 15) (f 18) 0 0 44) 18 k = f 15 k := fun k hk => cpy_in hk
  have nA : NWR 999 a b (upd2 f 18 (va_cpy (f 15) (f 18) 0 0 44) 18) (A 24) := nw.cg a3 b3 hx (fun k hk => q2 k hk)
  exact ⟨a, b, upd2 f 18 (va_cpy (f 15) (f 18) 0 0 44), A, a1, a2, a3, b1, b2, b3, sm, ec, q3, ⟨nA.s a3 b3, nA.2.2.2.2.1.2, fun q _ _ h18 => u2n h18, fun q _ _ h24 => q1 q h24⟩, nA.2.2.2.2.1.1.symm⟩
theorem AHD.dry (h : AHD D a b f f1 F F1) (hr : FREL v f v1 f1) (a1 : v 31 = nI a) (a2 : v1 24 = nI a) (a3 : a ≤ 6) (b1 : v 32 = nI b) (b2 : v1 25 = nI b) (b3 : b ≤ 6) (sm : STM f f1 a) (hD : D + 1 ≤ 9999) : ∃ (R : Int32) (F' F1' : Nat → Nat → Int32), gsX_X1_passDay_2 NF 0 v F = (R, v, F') ∧ gsY_X11_goDay_1 NF 0 v1 F1 w1 g = (R, v1, F1', w1, g) ∧ AHD (D + 1) a b f f1 F' F1' := by
  obtain ⟨h1, h2, h3, h4⟩ := h
  obtain ⟨R, F', F1', r1, r2, r3, r4, r5, r6, r7⟩ := dayB2_0 (NF := NF) (w1 := w1) (g := g) a1 a2 a3 b1 b2 b3 sm hr.1.2.1.2.2 hr.1.2.1.2.1.1 hD (fun q hq => h3 q (by omega) (by omega) (by omega)) (fun q hq => h4 q (by omega) (by omega) (by omega)) h1 (dr2_NB h2)
  exact ⟨R, F', F1', r1, r2, r5, by rw [r6]; exact dr1_NB h2, fun q z1 z2 z3 => (r3 q z1 z2 z3).trans (h3 q z1 z2 z3), fun q z1 z2 z3 => (r4 q z1 z2 z3).trans (h4 q z1 z2 z3)⟩
theorem AHD.drawn (h : AHD D a b f f1 F F1) (h5 : F1 24 38 = F 18 43) (hr : FREL v f v1 f1) (a1 : v 31 = nI a) (a2 : v1 24 = nI a) (a3 : a ≤ 6) (b1 : v 32 = nI b) (b2 : v1 25 = nI b) (b3 : b ≤ 6) (sm : STM f f1 a) (hD : D + 1 ≤ 9999) : ∃ (z : Nat) (R : Int32) (K F' F1' : Nat → Nat → Int32), z ≤ 1 ∧ gsX_X1_passDay_2 NF (v 36) v F = (R, v, F') ∧ gsY_X11_drawRain_1 NF v1 F1 w1 g = (nI z, v1, K, w1, g) ∧ gsY_X11_goDay_1 NF (nI z) v1 K w1 g = (R, v1, F1', w1, g) ∧ AHD (D + 1) a b f f1 F' F1' ∧ F1' 24 38 = F' 18 43 := by
  obtain ⟨h1, h2, h3, h4⟩ := h
  have e36 : v 36 = v1 29 := hr.1.2.1.2.1.2.2.2.1
  have eD : gsY_X11_drawRain_1 NF v1 F1 w1 g = ((if v1 29 ≤ dr2 (F 18 43) then 0 else 1), v1, upd2 F1 24 (upd (F1 24) 38 (dr1 (F 18 43))), w1, g) := by
    simp only [gsY_X11_drawRain_1, cN38, u2s, pk_us, h5]
    show (if v1 29 ≤ dr2 (F 18 43) then ((0 : Int32), v1, _, w1, g) else (1, v1, _, w1, g)) = _
    by_cases q : v1 29 ≤ dr2 (F 18 43)
    · rw [if_pos q, if_pos q]; rfl
    · rw [if_neg q, if_neg q]; rfl
  generalize hZ : upd2 F1 24 (upd (F1 24) 38 (dr1 (F 18 43))) = K at eD
  have kF : ∀ q, q ≠ 24 → K q = F1 q := fun q hq => by rw [← hZ]; exact u2n hq
  have k24 : ∀ k, k ≠ 38 → K 24 k = F1 24 k := fun k hk => by rw [← hZ, u2s, pk_un hk]
  have k38 : K 24 38 = dr1 (F 18 43) := by rw [← hZ, u2s, pk_us]
  have nK : NWS D a b (F 18) (K 24) := by
    obtain ⟨n1, n2, ⟨T, t1, t2, t3⟩, n4, n6⟩ := h1.o a3 b3
    exact NWS.of a3 b3 (fun m hm => by rw [k24 m (by omega), k24 (6 + m) (by omega)]; exact n1 m hm) (fun c hc => by rw [k24 (12 + c) (by omega), k24 (18 + c) (by omega), k24 (24 + c) (by omega), k24 (30 + c) (by omega)]; exact n2 c hc) ⟨T, t1, by rw [k24 36 (by decide)]; exact t2, t3⟩ (by rw [k24 37 (by decide)]; exact n4) n6
  by_cases q : v1 29 ≤ dr2 (F 18 43)
  · rw [if_pos q] at eD
    obtain ⟨R, F', F1', r1, r2, r3, r4, r5, r6, r7⟩ := dayB2_0 (NF := NF) (p1 := v 36) (w1 := w1) (g := g) a1 a2 a3 b1 b2 b3 sm hr.1.2.1.2.2 hr.1.2.1.2.1.1 hD (fun q hq => h3 q (by omega) (by omega) (by omega)) (fun q hq => (kF q (by omega)).trans (h4 q (by omega) (by omega) (by omega))) nK (by rw [e36]; exact q)
    exact ⟨0, R, K, F', F1', by decide, r1, eD, r2, ⟨r5, by rw [r6]; exact dr1_NB h2, fun q z1 z2 z3 => (r3 q z1 z2 z3).trans (h3 q z1 z2 z3), fun q z1 z2 z3 => (r4 q z1 z2 z3).trans ((kF q z3).trans (h4 q z1 z2 z3))⟩, by rw [r7, k38, r6]⟩
  · rw [if_neg q] at eD
    obtain ⟨R, F', F1', r1, r2, r3, r4, r5, r6, r7⟩ := dayB2_1 (NF := NF) (p1 := v 36) (w1 := w1) (g := g) a1 a2 a3 b1 b2 b3 sm hr.1.2.1.2.2 hr.1.2.1.2.1.1 hD (fun q hq => h3 q (by omega) (by omega) (by omega)) (fun q hq => (kF q (by omega)).trans (h4 q (by omega) (by omega) (by omega))) nK (by rw [e36]; exact q)
    exact ⟨1, R, K, F', F1', by decide, r1, eD, r2, ⟨r5, by rw [r6]; exact dr1_NB h2, fun q z1 z2 z3 => (r3 q z1 z2 z3).trans (h3 q z1 z2 z3), fun q z1 z2 z3 => (r4 q z1 z2 z3).trans ((kF q z3).trans (h4 q z1 z2 z3))⟩, by rw [r7, k38, r6]⟩
end
end
end
section
section
variable {NF : Nat} {v : Nat → Int32} {f : Nat → Nat → Int32} {v1 : Nat → Int32} {f1 : Nat → Nat → Int32} {w1 : Int64} {g : Nat → Int64} {r r' : Int32} {u : (Nat → Int32) × (Nat → Nat → Int32)} {u' : (Nat → Int32) × (Nat → Nat → Int32) × Int64 × (Nat → Int64)}
theorem xWearersA {a b : Nat} {F : Nat → Nat → Int32} (a1 : v 31 = nI a) (a3 : a ≤ 6) (b3 : b ≤ 6) (hw : ∀ m, m < a → F 18 (6 + m) = -1 ∨ ∃ c, c < b ∧ F 18 (6 + m) = nI c) : gsX_X1_wearers_1 NF v F = nI (bts (wrB (F 18)) a) := by
  refine acc0 (NF := NF) (L := fun fu s i => gsX_X1_wearers_1_L1 NF v F fu s i) (fun j => nI (bts (wrB (F 18)) j)) (by omega) (fun fu j hj => ?_) (fun fu => ?_)
  · obtain ⟨o1, o2⟩ := bts_or (p := wrB (F 18)) (n := j) (by omega)
    have nle : ¬ nI a ≤ nI j := nI_ge hj (by omega)
    show gsX_X1_wearers_1_L1 NF v F (fu + 1) (nI (bts (wrB (F 18)) j)) (nI j) = gsX_X1_wearers_1_L1 NF v F fu (nI (bts (wrB (F 18)) (j + 1))) (nI (j + 1))
    rcases hw j hj with q2 | ⟨c, hc, q2⟩
    · rw [← (o2 (by rw [wrB_0 q2]; decide)).2]
      conv => lhs; unfold gsX_X1_wearers_1_L1
      simp only [a1, xWears12 (NF := NF) (F := F) a1 a3 hj, q2, nI_1]
      rw [if_neg nle, if_pos trivial]
    · rw [← o1 (wrB_1 (by rw [q2]; exact nI_nm1 (by omega)))]
      conv => lhs; unfold gsX_X1_wearers_1_L1
      simp only [a1, xWears12 (NF := NF) (F := F) a1 a3 hj, q2, if_neg (nI_nm1 (show c < 2 ^ 31 by omega)), nI_1]
      rw [if_neg nle]
  · show gsX_X1_wearers_1_L1 NF v F (fu + 1) (nI (bts (wrB (F 18)) a)) (nI a) = _
    simp only [gsX_X1_wearers_1_L1, a1]
    rw [if_pos (nI_le (Nat.le_refl _) (by omega))]
theorem routLoop {a b : Nat} (hr : FREL v f v1 f1) (a1 : v 31 = nI a) (a2 : v1 24 = nI a) (a3 : a ≤ 6) (b1 : v 32 = nI b) (b2 : v1 25 = nI b) (b3 : b ≤ 6) (sm : STM f f1 a) : ∀ (k j fu fu1 : Nat) (F F1 : Nat → Nat → Int32), j + k = 61 → k < fu → k < fu1 → AHD (999 + j) a b f f1 F F1 → (gsX_X3_daysTillRout_1_L4 NF fu (nI j) v F).1 = (gsY_X11_rout_1_L6 NF fu1 (nI j) v1 F1 w1 g).1 := by
  intro k
  induction k with
  | zero =>
    intro j fu fu1 F F1 hj h1 h2 hA
    obtain ⟨fu, rfl⟩ : ∃ z, fu = z + 1 := ⟨fu - 1, by omega⟩
    obtain ⟨fu1, rfl⟩ : ∃ z, fu1 = z + 1 := ⟨fu1 - 1, by omega⟩
    have lt : (60 : Int32) < nI j := nI_lt (a := 60) (by omega) (by omega)
    simp only [gsX_X3_daysTillRout_1_L4, gsY_X11_rout_1_L6, if_pos lt]
  | succ k ih =>
    intro j fu fu1 F F1 hj h1 h2 hA
    obtain ⟨fu, rfl⟩ : ∃ z, fu = z + 1 := ⟨fu - 1, by omega⟩
    obtain ⟨fu1, rfl⟩ : ∃ z, fu1 = z + 1 := ⟨fu1 - 1, by omega⟩
    have nlt : ¬ (60 : Int32) < nI j := nI_nlt (a := 60) (by omega) (by decide)
    have d1 := (hA.1.o a3 b3).1
    have xw := xWearersA (NF := NF) (F := F) (b := b) a1 a3 b3 (fun m hm => (d1 m hm).2.2.2)
    have yw := yWearers (NF := NF) (F1 := F1) (w1 := w1) (g := g) (b := b) a2 a3 (fun m hm => ⟨(d1 m hm).2.2.1.symm, (d1 m hm).2.2.2⟩) b3
    by_cases z : nI (bts (wrB (F 18)) a) = 0
    · simp only [gsX_X3_daysTillRout_1_L4, gsY_X11_rout_1_L6, if_neg nlt, xw, yw, if_pos z]
    · obtain ⟨R, F', F1', r1, r2, r3⟩ := hA.dry (NF := NF) (w1 := w1) (g := g) hr a1 a2 a3 b1 b2 b3 sm (by omega)
      simp only [gsX_X3_daysTillRout_1_L4, gsY_X11_rout_1_L6, if_neg nlt, xw, yw, if_neg z, r1, r2, nI_1]
      exact ih (j + 1) fu fu1 F' F1' (by omega) (by omega) (by omega) r3
theorem FREL.rout (h : FREL v f v1 f1) (e : gsX_X10_rout_1 NF v f = (r, u)) (e' : gsY_X11_rout_1 NF v1 f1 w1 g = (r', u')) : r = r' := by
  obtain ⟨a, b, F, F1, a1, a2, a3, b1, b2, b3, sm, c1, c2, c3, c4⟩ := ahStart (NF := NF) (w1 := w1) (g := g) h
  have er : r = (gsX_X10_rout_1 NF v f).1 := by rw [e]
  have er' : r' = (gsY_X11_rout_1 NF v1 f1 w1 g).1 := by rw [e']
  rw [er, er']
  clear e e' er er'
  simp only [gsX_X10_rout_1, gsY_X11_rout_1, gsX_X3_daysTillRout_1, c1, c2]
  exact routLoop (NF := NF) h a1 a2 a3 b1 b2 b3 sm 61 0 (4294967296 + NF) (4294967296 + NF) F F1 (by omega) (by omega) (by omega) c3
end
end
section
section
variable {NF : Nat}
theorem lsY {x y : Nat} (hx : x < 2 ^ 31) (hy : y < 2 ^ 31) {V : Nat → Int32} {F : Nat → Nat → Int32} {W : Int64} {K : Nat → Int64} : gsY_X11_lesser_1 NF (nI x) (nI y) V F W K = nI (min x y) := by
  simp only [gsY_X11_lesser_1]
  by_cases c : y ≤ x
  · rw [if_pos (nI_le c hx), show min x y = y by omega]
  · rw [if_neg (nI_ge (by omega) hy), show min x y = x by omega]
theorem grY {x y : Nat} (hx : x < 2 ^ 31) (hy : y < 2 ^ 31) {V : Nat → Int32} {F : Nat → Nat → Int32} {W : Int64} {K : Nat → Int64} : gsY_X11_greater_1 NF (nI x) (nI y) V F W K = nI (max x y) := by
  simp only [gsY_X11_greater_1]
  by_cases c : x ≤ y
  · rw [if_pos (nI_le c hy), show max x y = y by omega]
  · rw [if_neg (nI_ge (by omega) hx), show max x y = x by omega]
end
end
