section
variable {NF : Nat}
def bts (p : Nat → Bool) : Nat → Nat
  | 0 => 0
  | n + 1 => bts p n + (if p n = true then 2 ^ n else 0)
theorem btF : ∀ n, n < 6 → ∀ B, B < 64 → B < 2 ^ n → nI B ||| ((1 : Int32) <<< (nI n &&& 31)) = nI (B + 2 ^ n) ∧ nI B ||| ((0 : Int32) <<< (nI n &&& 31)) = nI B ∧ (B + 2 ^ n) / 2 ^ n % 2 = 1 ∧ B / 2 ^ n % 2 = 0 ∧ B + 2 ^ n < 2 ^ (n + 1) ∧ (∀ m, m < n → (B + 2 ^ n) / 2 ^ m % 2 = B / 2 ^ m % 2) := by decide +kernel
theorem p2le : ∀ n, n ≤ 6 → 2 ^ n ≤ 64 := by decide
theorem bts_lt (p : Nat → Bool) : ∀ n, n ≤ 6 → bts p n < 2 ^ n := by
  intro n
  induction n with
  | zero => intro _; exact (show (0 : Nat) < 1 by decide)
  | succ n ih =>
    intro hn
    have h := ih (by omega)
    have h64 := p2le n (by omega)
    obtain ⟨_, _, _, _, e, _⟩ := btF n (by omega) (bts p n) (by omega) h
    show bts p n + (if p n = true then 2 ^ n else 0) < 2 ^ (n + 1)
    by_cases c : p n = true
    · rw [if_pos c]; exact e
    · rw [if_neg c]; omega
theorem bts_bit (p : Nat → Bool) : ∀ n, n ≤ 6 → ∀ m, m < n → bts p n / 2 ^ m % 2 = if p m = true then 1 else 0 := by
  intro n
  induction n with
  | zero => intro _ m hm; exact absurd hm (Nat.not_lt_zero _)
  | succ n ih =>
    intro hn m hm
    have h := bts_lt p n (by omega)
    have h64 := p2le n (by omega)
    obtain ⟨_, _, e1, e2, _, e3⟩ := btF n (by omega) (bts p n) (by omega) h
    show (bts p n + (if p n = true then 2 ^ n else 0)) / 2 ^ m % 2 = _
    by_cases c : p n = true
    · rw [if_pos c]
      by_cases em : m = n
      · rw [em, e1, if_pos c]
      · rw [e3 m (by omega)]; exact ih (by omega) m (by omega)
    · rw [if_neg c, Nat.add_zero]
      by_cases em : m = n
      · rw [em, e2, if_neg c]
      · exact ih (by omega) m (by omega)
theorem bts_cg {p q : Nat → Bool} : ∀ n, (∀ m, m < n → p m = q m) → bts p n = bts q n := by
  intro n
  induction n with
  | zero => intro _; rfl
  | succ n ih =>
    intro h
    show bts p n + (if p n = true then 2 ^ n else 0) = bts q n + (if q n = true then 2 ^ n else 0)
    rw [ih (fun m hm => h m (by omega)), h n (by omega)]
theorem bts_or {p : Nat → Bool} {n : Nat} (hn : n < 6) : (p n = true → nI (bts p n) ||| ((1 : Int32) <<< (nI n &&& 31)) = nI (bts p (n + 1))) ∧ (¬ p n = true → nI (bts p n) ||| ((0 : Int32) <<< (nI n &&& 31)) = nI (bts p (n + 1)) ∧ nI (bts p n) = nI (bts p (n + 1))) := by
  have h := bts_lt p n (by omega)
  have h64 := p2le n (by omega)
  obtain ⟨e1, e2, _⟩ := btF n hn (bts p n) (by omega) h
  have eb : bts p (n + 1) = bts p n + (if p n = true then 2 ^ n else 0) := rfl
  refine ⟨fun c => ?_, fun c => ?_⟩
  · rw [eb, if_pos c]; exact e1
  · rw [eb, if_neg c, Nat.add_zero]; exact ⟨e2, rfl⟩
theorem andN : ∀ A, A < 64 → ∀ B, B < 64 → nI A &&& (nI B ^^^ (-1)) = nI (A &&& (63 ^^^ B)) ∧ (A &&& (63 ^^^ B)) < 64 := by decide +kernel
theorem andB : ∀ A, A < 64 → ∀ B, B < 64 → ∀ m, m < 6 → (A &&& (63 ^^^ B)) / 2 ^ m % 2 = (A / 2 ^ m % 2) * (1 - B / 2 ^ m % 2) := by decide +kernel
theorem eqB : ∀ A, A < 64 → ∀ B, B < 64 → (∀ m, m < 6 → A / 2 ^ m % 2 = B / 2 ^ m % 2) → A = B := by decide +kernel
theorem hiB : ∀ n, n ≤ 6 → ∀ A, A < 64 → A < 2 ^ n → ∀ m, m < 6 → n ≤ m → A / 2 ^ m % 2 = 0 := by decide +kernel
theorem bts_and (p q : Nat → Bool) {n : Nat} (hn : n ≤ 6) : nI (bts p n) &&& (nI (bts q n) ^^^ (-1)) = nI (bts (fun m => p m && !q m) n) := by
  have hp := bts_lt p n hn
  have hq := bts_lt q n hn
  have hr := bts_lt (fun m => p m && !q m) n hn
  have h64 := p2le n hn
  obtain ⟨e1, e2⟩ := andN (bts p n) (by omega) (bts q n) (by omega)
  rw [e1]
  congr 1
  refine eqB _ e2 _ (by omega) (fun m hm => ?_)
  rw [andB _ (by omega) _ (by omega) m hm]
  by_cases c : m < n
  · rw [bts_bit p n hn m c, bts_bit q n hn m c, bts_bit _ n hn m c]
    cases p m <;> cases q m <;> rfl
  · rw [hiB n hn _ (by omega) hp m hm (by omega), hiB n hn _ (by omega) hr m hm (by omega), Nat.zero_mul]
def nv (x : Int32) : Nat := x.toNatClampNeg
theorem NBx.nat {n : Nat} {x : Int32} (h : NBx n x) (hn : n < 2 ^ 31) : nv x ≤ n ∧ x = nI (nv x) := by
  obtain ⟨j, hj, rfl⟩ := h
  have e : nv (nI j) = j := nI_clamp (by omega)
  rw [e]; exact ⟨hj, rfl⟩
theorem min99 {s : Nat} (hs : s < 2 ^ 31) : (if nI s < (99 : Int32) then nI s else (99 : Int32)) = nI (min 99 s) := by
  by_cases c : s < 99
  · rw [if_pos (show nI s < (99 : Int32) from nI_lt (b := 99) c (by decide)), Nat.min_eq_right (by omega)]
  · rw [if_neg (show ¬ nI s < (99 : Int32) from nI_nlt (b := 99) (by omega) hs), Nat.min_eq_left (by omega)]; rfl
theorem les99 {s : Nat} (hs : s < 2 ^ 31) {v1 : Nat → Int32} {f1 : Nat → Nat → Int32} {w1 : Int64} {g : Nat → Int64} : gsY_X11_lesser_1 NF 99 (nI s) v1 f1 w1 g = nI (min 99 s) := by
  simp only [gsY_X11_lesser_1]
  by_cases c : s ≤ 99
  · rw [if_pos (show nI s ≤ (99 : Int32) from nI_le (b := 99) c (by decide)), Nat.min_eq_right c]
  · rw [if_neg (show ¬ nI s ≤ (99 : Int32) from nI_ge (a := 99) (by omega) hs), Nat.min_eq_left (by omega)]; rfl
theorem gre0 {s z : Nat} (hs : s < 2 ^ 31) (hz : z ≤ 1) {v1 : Nat → Int32} {f1 : Nat → Nat → Int32} {w1 : Int64} {g : Nat → Int64} : gsY_X11_greater_1 NF 0 (nI s - nI z) v1 f1 w1 g = nI (s - z) := by
  simp only [gsY_X11_greater_1]
  by_cases c : z ≤ s
  · rw [nI_subI c, if_pos (nI_pos' (by omega))]
  · have e1 : z = 1 := by omega
    have e0 : s = 0 := by omega
    subst e1 e0
    decide
def dr1 (x : Int32) : Int32 := (x * 137 + 71) - (x * 137 + 71) / 1000 * 1000
def dr2 (x : Int32) : Int32 := dr1 x - dr1 x / 100 * 100
def WTH (z b : Nat) (P : Nat → Prop) (x x' : Nat → Int32) : Prop := (∀ k, (k < 12 ∨ (24 ≤ k ∧ k < 30) ∨ 36 ≤ k) → x' k = x k) ∧ ∀ c, c < b → (P c → x' (12 + c) = nI (nv (x (12 + c)) - z) ∧ x' (18 + c) = nI (nv (x (18 + c)) - z) ∧ x' (30 + c) = nI (min 99 (nv (x (30 + c)) + 1))) ∧ (¬ P c → x' (12 + c) = x (12 + c) ∧ x' (18 + c) = x (18 + c) ∧ x' (30 + c) = x (30 + c))
section
variable {v : Nat → Int32} {F : Nat → Nat → Int32} {a b : Nat}
theorem xGrow1 {p1 : Int32} (a1 : v 31 = nI a) (a3 : a ≤ 6) (hW : ∀ m, m < a → NBx 99 (F 15 m)) (hG : ∀ m, m < a → NBx 9 (F 9 (12 + m))) : ∃ F' : Nat → Nat → Int32, (∀ q, q ≠ 15 → F' q = F q) ∧ (∀ k, ¬ k < a → F' 15 k = F 15 k) ∧ (∀ m, m < a → F' 15 m = nI (min 99 (nv (F 15 m) + nv (F 9 (12 + m))))) ∧ gsX_X1_passDay_1 NF p1 v F = (if p1 ≤ dr2 (F' 15 43) then gsX_X1_passDay_1_L15 NF v (4294967296 + NF) 0 v (upd2 F' 15 (upd (F' 15) 43 (dr1 (F' 15 43)))) else gsX_X1_passDay_1_L56 NF v (4294967296 + NF) 0 v (upd2 F' 15 (upd (F' 15) 43 (dr1 (F' 15 43))))) := by
  refine lpQ (S := SX) (fun fu i s => gsX_X1_passDay_1_L1 NF p1 v fu i s.1 s.2) (fun r => ∃ F' : Nat → Nat → Int32, (∀ q, q ≠ 15 → F' q = F q) ∧ (∀ k, ¬ k < a → F' 15 k = F 15 k) ∧ (∀ m, m < a → F' 15 m = nI (min 99 (nv (F 15 m) + nv (F 9 (12 + m))))) ∧ r = (if p1 ≤ dr2 (F' 15 43) then gsX_X1_passDay_1_L15 NF v (4294967296 + NF) 0 v (upd2 F' 15 (upd (F' 15) 43 (dr1 (F' 15 43)))) else gsX_X1_passDay_1_L56 NF v (4294967296 + NF) 0 v (upd2 F' 15 (upd (F' 15) 43 (dr1 (F' 15 43)))))) (fun j s => ∃ F' : Nat → Nat → Int32, s = (v, F') ∧ (∀ q, q ≠ 15 → F' q = F q) ∧ (∀ k, ¬ k < j → F' 15 k = F 15 k) ∧ (∀ m, m < j → F' 15 m = nI (min 99 (nv (F 15 m) + nv (F 9 (12 + m)))))) a ?_ ?_ a 0 (4294967296 + NF) (v, F) (by omega) (by omega) ⟨F, rfl, fun q _ => rfl, fun i _ => rfl, fun k hk => absurd hk (Nat.not_lt_zero _)⟩
  · intro fu j s hj hs
    obtain ⟨y, rfl, hF, hO, hK⟩ := hs
    obtain ⟨w1, w2⟩ := (hW j hj).nat (by decide)
    obtain ⟨g1, g2⟩ := (hG j hj).nat (by decide)
    have mp : gsX_X7_manPart_1 NF 2 (nI j) v y = nI (nv (F 9 (12 + j))) := by
      have q : gsX_X7_manPart_1 NF 2 (nI j) v y = y 9 (12 + j) := xManP (p := 2) a1 a3 hj (by decide)
      rw [q, hF 9 (by decide)]; exact g2
    have yj : y 15 j = nI (nv (F 15 j)) := (hO j (by omega)).trans w2
    refine Or.inl ⟨(v, upd2 y 15 (upd (y 15) j (nI (min 99 (nv (F 15 j) + nv (F 9 (12 + j))))))), ⟨_, rfl, fun q hq => (u2n hq).trans (hF q hq), fun k hk => ?_, fun m hm => ?_⟩, ?_⟩
    · show upd (y 15) j _ k = _
      rw [pk_un (by omega)]; exact hO k (by omega)
    · show upd (y 15) j _ m = _
      by_cases e : m = j
      · rw [e, pk_us]
      · rw [pk_un e]; exact hK m (by omega)
    · show gsX_X1_passDay_1_L1 NF p1 v (fu + 1) (nI j) v y = gsX_X1_passDay_1_L1 NF p1 v fu (nI (j + 1)) v _
      simp only [gsX_X1_passDay_1_L1, a1, mp, nI_clamp (show j < 2 ^ 31 by omega), yj, nI_add, nI_1, min99 (show nv (F 15 j) + nv (F 9 (12 + j)) < 2 ^ 31 by omega)]
      rw [if_neg (show ¬ nI a ≤ nI j from nI_ge hj (by omega))]
  · intro fu s hs
    obtain ⟨y, rfl, hF, hO, hK⟩ := hs
    refine ⟨y, hF, hO, hK, ?_⟩
    show gsX_X1_passDay_1_L1 NF p1 v (fu + 1) (nI a) v y = _
    simp only [gsX_X1_passDay_1_L1, a1, cN43, u2s, pk_us]
    rw [if_pos (show nI a ≤ nI a from nI_le (Nat.le_refl _) (by omega))]
    rfl
theorem xWeat11 {c z : Nat} (b1 : v 32 = nI b) (b3 : b ≤ 6) (hc : c < b) (hz : z ≤ 1) (h12 : NBx 99 (F 15 (12 + c))) (h18 : NBx 99 (F 15 (18 + c))) (h30 : NBx 99 (F 15 (30 + c))) : gsX_X1_weather_1 NF (nI c) (nI z) v F = (v, upd2 F 15 (upd (upd (upd (F 15) (30 + c) (nI (min 99 (nv (F 15 (30 + c)) + 1)))) (18 + c) (nI (nv (F 15 (18 + c)) - z))) (12 + c) (nI (nv (F 15 (12 + c)) - z)))) := by
  obtain ⟨q1, q2⟩ := h12.nat (by decide)
  obtain ⟨q3, q4⟩ := h18.nat (by decide)
  obtain ⟨q5, q6⟩ := h30.nat (by decide)
  have r3 : gsX_X1_part_1 NF 3 (nI c) v F = nI (nv (F 15 (30 + c))) := (show gsX_X1_part_1 NF 3 (nI c) v F = F 15 (30 + c) from xPart1 (p := 3) b1 b3 hc (by decide)).trans q6
  generalize hA : upd2 F 15 (upd (F 15) (30 + c) (nI (min 99 (nv (F 15 (30 + c)) + 1)))) = A
  have s3 : gsX_X1_setPart_1 NF 3 (nI c) (nI (min 99 (nv (F 15 (30 + c)) + 1))) v F = (v, A) := by rw [← hA]; exact xSetP1 (p := 3) b1 b3 hc (by decide)
  have A18 : A 15 (18 + c) = nI (nv (F 15 (18 + c))) := by rw [← hA, u2s, pk_un (by omega)]; exact q4
  have A12 : A 15 (12 + c) = nI (nv (F 15 (12 + c))) := by rw [← hA, u2s, pk_un (by omega)]; exact q2
  have r1 : gsX_X1_part_1 NF 1 (nI c) v A = nI (nv (F 15 (18 + c))) := (show gsX_X1_part_1 NF 1 (nI c) v A = A 15 (18 + c) from xPart1 (p := 1) b1 b3 hc (by decide)).trans A18
  generalize hB : upd2 A 15 (upd (A 15) (18 + c) (nI (nv (F 15 (18 + c)) - z))) = B
  have s1 : gsX_X1_setPart_1 NF 1 (nI c) (nI (nv (F 15 (18 + c)) - z)) v A = (v, B) := by rw [← hB]; exact xSetP1 (p := 1) b1 b3 hc (by decide)
  have B12 : B 15 (12 + c) = nI (nv (F 15 (12 + c))) := by rw [← hB, u2s, pk_un (by omega)]; exact A12
  have r0 : gsX_X1_part_1 NF 0 (nI c) v B = nI (nv (F 15 (12 + c))) := (show gsX_X1_part_1 NF 0 (nI c) v B = B 15 (12 + c) from xPart1 (p := 0) b1 b3 hc (by decide)).trans B12
  have s0 : gsX_X1_setPart_1 NF 0 (nI c) (nI (nv (F 15 (12 + c)) - z)) v B = (v, upd2 B 15 (upd (B 15) (12 + c) (nI (nv (F 15 (12 + c)) - z)))) := xSetP1 (p := 0) b1 b3 hc (by decide)
  simp only [gsX_X1_weather_1, r3, nI_1, min99 (show nv (F 15 (30 + c)) + 1 < 2 ^ 31 by omega), s3, r1, ovX (show nv (F 15 (18 + c)) < 2 ^ 31 by omega) (show z < 2 ^ 31 by omega), s1, r0, ovX (show nv (F 15 (12 + c)) < 2 ^ 31 by omega) (show z < 2 ^ 31 by omega), s0]
  rw [← hB, ← hA, u2s, u2s, upd2_2, upd2_2]
theorem xWeat01 {p : Int32} (b1 : v 32 = nI b) (b3 : b ≤ 6) : gsX_X1_weather_1 NF (-1) p v F = (v, F) := by
  have n : ¬ ∃ P, P < b ∧ (-1 : Int32) = nI P := fun ⟨P, hP, z⟩ => nI_nm1 (show P < 2 ^ 31 by omega) z.symm
  simp only [gsX_X1_weather_1, xSetP0 (NF := NF) (F := F) b1 n]
theorem xWeat1_0 (a1 : v 31 = nI a) (a3 : a ≤ 6) (b1 : v 32 = nI b) (b3 : b ≤ 6) (hw : ∀ m, m < a → F 15 (6 + m) = -1 ∨ ∃ c, c < b ∧ F 15 (6 + m) = nI c) (hi : ∀ m m', m < a → m' < a → F 15 (6 + m) = F 15 (6 + m') → ¬ F 15 (6 + m) = -1 → m = m') (hN : ∀ c, c < b → NBx 99 (F 15 (12 + c)) ∧ NBx 99 (F 15 (18 + c)) ∧ NBx 99 (F 15 (30 + c))) : ∃ F' : Nat → Nat → Int32, (∀ q, q ≠ 15 → F' q = F q) ∧ WTH 0 b (fun c => ∃ m, m < a ∧ F 15 (6 + m) = nI c) (F 15) (F' 15) ∧ gsX_X1_passDay_1_L15 NF v (4294967296 + NF) 0 v F = gsX_X1_passDay_1_L21 NF v (4294967296 + NF) 0 0 v (upd2 F' 15 (upd (F' 15) 42 (F' 15 42 + 1))) := by
  refine lpQ (S := SX) (fun fu i s => gsX_X1_passDay_1_L15 NF v fu i s.1 s.2) (fun r => ∃ F' : Nat → Nat → Int32, (∀ q, q ≠ 15 → F' q = F q) ∧ WTH 0 b (fun c => ∃ m, m < a ∧ F 15 (6 + m) = nI c) (F 15) (F' 15) ∧ r = gsX_X1_passDay_1_L21 NF v (4294967296 + NF) 0 0 v (upd2 F' 15 (upd (F' 15) 42 (F' 15 42 + 1)))) (fun j s => ∃ F' : Nat → Nat → Int32, s = (v, F') ∧ (∀ q, q ≠ 15 → F' q = F q) ∧ WTH 0 b (fun c => ∃ m, m < j ∧ F 15 (6 + m) = nI c) (F 15) (F' 15)) a ?_ ?_ a 0 (4294967296 + NF) (v, F) (by omega) (by omega) ⟨F, rfl, fun q _ => rfl, fun k _ => rfl, fun c hc => ⟨fun ⟨m, hm, _⟩ => absurd hm (Nat.not_lt_zero _), fun _ => ⟨rfl, rfl, rfl⟩⟩⟩
  · intro fu j s hj hs
    obtain ⟨y, rfl, hF, hO, hC⟩ := hs
    have yw : gsX_X1_wears_1 NF (nI j) v y = F 15 (6 + j) := (xWears1 a1 a3 hj).trans (hO (6 + j) (by omega))
    rcases hw j hj with wn | ⟨c0, hc0, wc⟩
    · refine Or.inl ⟨(v, y), ⟨y, rfl, hF, hO, fun c hc => ⟨fun ⟨m, hm, em⟩ => ?_, fun n => ?_⟩⟩, ?_⟩
      · have : m ≠ j := fun z => by rw [z, wn] at em; exact nI_nm1 (show c < 2 ^ 31 by omega) em.symm
        exact (hC c hc).1 ⟨m, by omega, em⟩
      · exact (hC c hc).2 (fun ⟨m, hm, em⟩ => n ⟨m, by omega, em⟩)
      · show gsX_X1_passDay_1_L15 NF v (fu + 1) (nI j) v y = gsX_X1_passDay_1_L15 NF v fu (nI (j + 1)) v y
        simp only [gsX_X1_passDay_1_L15, a1, yw, wn, xWeat01 (NF := NF) (F := y) b1 b3, nI_1]
        rw [if_neg (show ¬ nI a ≤ nI j from nI_ge hj (by omega))]
    · have fresh : ¬ ∃ m, m < j ∧ F 15 (6 + m) = nI c0 := fun ⟨m, hm, em⟩ => by
        have := hi m j (by omega) hj (em.trans wc.symm) (by rw [em]; exact nI_nm1 (by omega))
        omega
      obtain ⟨o1, o2, o3⟩ := (hC c0 hc0).2 fresh
      obtain ⟨b12, b18, b30⟩ := hN c0 hc0
      have we := xWeat11 (NF := NF) (v := v) (F := y) (z := 0) b1 b3 hc0 (by decide) (by rw [o1]; exact b12) (by rw [o2]; exact b18) (by rw [o3]; exact b30)
      rw [o1, o2, o3] at we
      generalize hU : upd (upd (upd (y 15) (30 + c0) (nI (min 99 (nv (F 15 (30 + c0)) + 1)))) (18 + c0) (nI (nv (F 15 (18 + c0)) - 0))) (12 + c0) (nI (nv (F 15 (12 + c0)) - 0)) = U at we
      refine Or.inl ⟨(v, upd2 y 15 U), ⟨_, rfl, fun q hq => (u2n hq).trans (hF q hq), fun k hk => ?_, fun c hc => ?_⟩, ?_⟩
      · show U k = _
        rw [← hU, pk_un (by omega), pk_un (by omega), pk_un (by omega)]
        exact hO k hk
      · show (_ → U (12 + c) = _ ∧ U (18 + c) = _ ∧ U (30 + c) = _) ∧ (_ → U (12 + c) = _ ∧ U (18 + c) = _ ∧ U (30 + c) = _)
        by_cases e : c = c0
        · subst e
          refine ⟨fun _ => ⟨?_, ?_, ?_⟩, fun n => absurd ⟨j, by omega, wc⟩ n⟩
          · rw [← hU, pk_us]
          · rw [← hU, pk_un (by omega), pk_us]
          · rw [← hU, pk_un (by omega), pk_un (by omega), pk_us]
        · have e1 : U (12 + c) = y 15 (12 + c) := by rw [← hU, pk_un (by omega), pk_un (by omega), pk_un (by omega)]
          have e2 : U (18 + c) = y 15 (18 + c) := by rw [← hU, pk_un (by omega), pk_un (by omega), pk_un (by omega)]
          have e3 : U (30 + c) = y 15 (30 + c) := by rw [← hU, pk_un (by omega), pk_un (by omega), pk_un (by omega)]
          rw [e1, e2, e3]
          refine ⟨fun ⟨m, hm, em⟩ => ?_, fun n => ?_⟩
          · have : m ≠ j := fun z => by
              rw [z, wc] at em
              exact e ((nI_eq (by omega) (by omega)).mp em).symm
            exact (hC c hc).1 ⟨m, by omega, em⟩
          · exact (hC c hc).2 (fun ⟨m, hm, em⟩ => n ⟨m, by omega, em⟩)
      · show gsX_X1_passDay_1_L15 NF v (fu + 1) (nI j) v y = gsX_X1_passDay_1_L15 NF v fu (nI (j + 1)) v (upd2 y 15 U)
        have we : gsX_X1_weather_1 NF (nI c0) 0 v y = (v, upd2 y 15 U) := we
        simp only [gsX_X1_passDay_1_L15, a1, yw, wc, we, nI_1]
        rw [if_neg (show ¬ nI a ≤ nI j from nI_ge hj (by omega))]
  · intro fu s hs
    obtain ⟨y, rfl, hF, hC⟩ := hs
    refine ⟨y, hF, hC, ?_⟩
    show gsX_X1_passDay_1_L15 NF v (fu + 1) (nI a) v y = _
    simp only [gsX_X1_passDay_1_L15, a1, cN42]
    rw [if_pos (show nI a ≤ nI a from nI_le (Nat.le_refl _) (by omega))]
theorem xWeat1_1 (a1 : v 31 = nI a) (a3 : a ≤ 6) (b1 : v 32 = nI b) (b3 : b ≤ 6) (hw : ∀ m, m < a → F 15 (6 + m) = -1 ∨ ∃ c, c < b ∧ F 15 (6 + m) = nI c) (hi : ∀ m m', m < a → m' < a → F 15 (6 + m) = F 15 (6 + m') → ¬ F 15 (6 + m) = -1 → m = m') (hN : ∀ c, c < b → NBx 99 (F 15 (12 + c)) ∧ NBx 99 (F 15 (18 + c)) ∧ NBx 99 (F 15 (30 + c))) : ∃ F' : Nat → Nat → Int32, (∀ q, q ≠ 15 → F' q = F q) ∧ WTH 1 b (fun c => ∃ m, m < a ∧ F 15 (6 + m) = nI c) (F 15) (F' 15) ∧ gsX_X1_passDay_1_L56 NF v (4294967296 + NF) 0 v F = gsX_X1_passDay_1_L62 NF v (4294967296 + NF) 0 0 v (upd2 F' 15 (upd (F' 15) 42 (F' 15 42 + 1))) := by
  refine lpQ (S := SX) (fun fu i s => gsX_X1_passDay_1_L56 NF v fu i s.1 s.2) (fun r => ∃ F' : Nat → Nat → Int32, (∀ q, q ≠ 15 → F' q = F q) ∧ WTH 1 b (fun c => ∃ m, m < a ∧ F 15 (6 + m) = nI c) (F 15) (F' 15) ∧ r = gsX_X1_passDay_1_L62 NF v (4294967296 + NF) 0 0 v (upd2 F' 15 (upd (F' 15) 42 (F' 15 42 + 1)))) (fun j s => ∃ F' : Nat → Nat → Int32, s = (v, F') ∧ (∀ q, q ≠ 15 → F' q = F q) ∧ WTH 1 b (fun c => ∃ m, m < j ∧ F 15 (6 + m) = nI c) (F 15) (F' 15)) a ?_ ?_ a 0 (4294967296 + NF) (v, F) (by omega) (by omega) ⟨F, rfl, fun q _ => rfl, fun k _ => rfl, fun c hc => ⟨fun ⟨m, hm, _⟩ => absurd hm (Nat.not_lt_zero _), fun _ => ⟨rfl, rfl, rfl⟩⟩⟩
  · intro fu j s hj hs
    obtain ⟨y, rfl, hF, hO, hC⟩ := hs
    have yw : gsX_X1_wears_1 NF (nI j) v y = F 15 (6 + j) := (xWears1 a1 a3 hj).trans (hO (6 + j) (by omega))
    rcases hw j hj with wn | ⟨c0, hc0, wc⟩
    · refine Or.inl ⟨(v, y), ⟨y, rfl, hF, hO, fun c hc => ⟨fun ⟨m, hm, em⟩ => ?_, fun n => ?_⟩⟩, ?_⟩
      · have : m ≠ j := fun z => by rw [z, wn] at em; exact nI_nm1 (show c < 2 ^ 31 by omega) em.symm
        exact (hC c hc).1 ⟨m, by omega, em⟩
      · exact (hC c hc).2 (fun ⟨m, hm, em⟩ => n ⟨m, by omega, em⟩)
      · show gsX_X1_passDay_1_L56 NF v (fu + 1) (nI j) v y = gsX_X1_passDay_1_L56 NF v fu (nI (j + 1)) v y
        simp only [gsX_X1_passDay_1_L56, a1, yw, wn, xWeat01 (NF := NF) (F := y) b1 b3, nI_1]
        rw [if_neg (show ¬ nI a ≤ nI j from nI_ge hj (by omega))]
    · have fresh : ¬ ∃ m, m < j ∧ F 15 (6 + m) = nI c0 := fun ⟨m, hm, em⟩ => by
        have := hi m j (by omega) hj (em.trans wc.symm) (by rw [em]; exact nI_nm1 (by omega))
        omega
      obtain ⟨o1, o2, o3⟩ := (hC c0 hc0).2 fresh
      obtain ⟨b12, b18, b30⟩ := hN c0 hc0
      have we := xWeat11 (NF := NF) (v := v) (F := y) (z := 1) b1 b3 hc0 (by decide) (by rw [o1]; exact b12) (by rw [o2]; exact b18) (by rw [o3]; exact b30)
      rw [o1, o2, o3] at we
      generalize hU : upd (upd (upd (y 15) (30 + c0) (nI (min 99 (nv (F 15 (30 + c0)) + 1)))) (18 + c0) (nI (nv (F 15 (18 + c0)) - 1))) (12 + c0) (nI (nv (F 15 (12 + c0)) - 1)) = U at we
      refine Or.inl ⟨(v, upd2 y 15 U), ⟨_, rfl, fun q hq => (u2n hq).trans (hF q hq), fun k hk => ?_, fun c hc => ?_⟩, ?_⟩
      · show U k = _
        rw [← hU, pk_un (by omega), pk_un (by omega), pk_un (by omega)]
        exact hO k hk
      · show (_ → U (12 + c) = _ ∧ U (18 + c) = _ ∧ U (30 + c) = _) ∧ (_ → U (12 + c) = _ ∧ U (18 + c) = _ ∧ U (30 + c) = _)
        by_cases e : c = c0
        · subst e
          refine ⟨fun _ => ⟨?_, ?_, ?_⟩, fun n => absurd ⟨j, by omega, wc⟩ n⟩
          · rw [← hU, pk_us]
          · rw [← hU, pk_un (by omega), pk_us]
          · rw [← hU, pk_un (by omega), pk_un (by omega), pk_us]
        · have e1 : U (12 + c) = y 15 (12 + c) := by rw [← hU, pk_un (by omega), pk_un (by omega), pk_un (by omega)]
          have e2 : U (18 + c) = y 15 (18 + c) := by rw [← hU, pk_un (by omega), pk_un (by omega), pk_un (by omega)]
          have e3 : U (30 + c) = y 15 (30 + c) := by rw [← hU, pk_un (by omega), pk_un (by omega), pk_un (by omega)]
          rw [e1, e2, e3]
          refine ⟨fun ⟨m, hm, em⟩ => ?_, fun n => ?_⟩
          · have : m ≠ j := fun z => by
              rw [z, wc] at em
              exact e ((nI_eq (by omega) (by omega)).mp em).symm
            exact (hC c hc).1 ⟨m, by omega, em⟩
          · exact (hC c hc).2 (fun ⟨m, hm, em⟩ => n ⟨m, by omega, em⟩)
      · show gsX_X1_passDay_1_L56 NF v (fu + 1) (nI j) v y = gsX_X1_passDay_1_L56 NF v fu (nI (j + 1)) v (upd2 y 15 U)
        have we : gsX_X1_weather_1 NF (nI c0) 1 v y = (v, upd2 y 15 U) := we
        simp only [gsX_X1_passDay_1_L56, a1, yw, wc, we, nI_1]
        rw [if_neg (show ¬ nI a ≤ nI j from nI_ge hj (by omega))]
  · intro fu s hs
    obtain ⟨y, rfl, hF, hC⟩ := hs
    refine ⟨y, hF, hC, ?_⟩
    show gsX_X1_passDay_1_L56 NF v (fu + 1) (nI a) v y = _
    simp only [gsX_X1_passDay_1_L56, a1, cN42]
    rw [if_pos (show nI a ≤ nI a from nI_le (Nat.le_refl _) (by omega))]
end
section
variable {v1 : Nat → Int32} {F1 : Nat → Nat → Int32} {w1 : Int64} {g : Nat → Int64} {a b : Nat}
theorem yGrow {p1 : Int32} (a2 : v1 24 = nI a) (a3 : a ≤ 6) (hW : ∀ m, m < a → NBx 99 (F1 24 m)) (hG : ∀ m, m < a → NBx 9 (F1 18 m)) : ∃ F' : Nat → Nat → Int32, (∀ q, q ≠ 24 → F' q = F1 q) ∧ (∀ k, ¬ k < a → F' 24 k = F1 24 k) ∧ (∀ m, m < a → F' 24 m = nI (min 99 (nv (F1 24 m) + nv (F1 18 m)))) ∧ gsY_X11_goDay_1 NF p1 v1 F1 w1 g = gsY_X11_goDay_1_L5 NF p1 v1 (4294967296 + NF) 0 v1 F' w1 g := by
  refine lpQ (S := SY) (fun fu i s => gsY_X11_goDay_1_L1 NF p1 v1 fu i s.1 s.2.1 s.2.2.1 s.2.2.2) (fun r => ∃ F' : Nat → Nat → Int32, (∀ q, q ≠ 24 → F' q = F1 q) ∧ (∀ k, ¬ k < a → F' 24 k = F1 24 k) ∧ (∀ m, m < a → F' 24 m = nI (min 99 (nv (F1 24 m) + nv (F1 18 m)))) ∧ r = gsY_X11_goDay_1_L5 NF p1 v1 (4294967296 + NF) 0 v1 F' w1 g) (fun j s => ∃ F' : Nat → Nat → Int32, s = (v1, F', w1, g) ∧ (∀ q, q ≠ 24 → F' q = F1 q) ∧ (∀ k, ¬ k < j → F' 24 k = F1 24 k) ∧ (∀ m, m < j → F' 24 m = nI (min 99 (nv (F1 24 m) + nv (F1 18 m))))) a ?_ ?_ a 0 (4294967296 + NF) (v1, F1, w1, g) (by omega) (by omega) ⟨F1, rfl, fun q _ => rfl, fun i _ => rfl, fun k hk => absurd hk (Nat.not_lt_zero _)⟩
  · intro fu j s hj hs
    obtain ⟨y, rfl, hF, hO, hK⟩ := hs
    obtain ⟨q1, q2⟩ := (hW j hj).nat (by decide)
    obtain ⟨g1, g2⟩ := (hG j hj).nat (by decide)
    have yj : y 24 j = nI (nv (F1 24 j)) := (hO j (by omega)).trans q2
    have yg : y 18 j = nI (nv (F1 18 j)) := (congrFun (hF 18 (by decide)) _).trans g2
    refine Or.inl ⟨(v1, upd2 y 24 (upd (y 24) j (nI (min 99 (nv (F1 24 j) + nv (F1 18 j))))), w1, g), ⟨_, rfl, fun q hq => (u2n hq).trans (hF q hq), fun k hk => ?_, fun m hm => ?_⟩, ?_⟩
    · show upd (y 24) j _ k = _
      rw [pk_un (by omega)]; exact hO k (by omega)
    · show upd (y 24) j _ m = _
      by_cases e : m = j
      · rw [e, pk_us]
      · rw [pk_un e]; exact hK m (by omega)
    · show gsY_X11_goDay_1_L1 NF p1 v1 (fu + 1) (nI j) v1 y w1 g = gsY_X11_goDay_1_L1 NF p1 v1 fu (nI (j + 1)) v1 _ w1 g
      simp only [gsY_X11_goDay_1_L1, a2, nI_clamp (show j < 2 ^ 31 by omega), yj, yg, nI_add, nI_1, les99 (NF := NF) (show nv (F1 24 j) + nv (F1 18 j) < 2 ^ 31 by omega)]
      rw [if_neg (show ¬ nI a ≤ nI j from nI_ge hj (by omega))]
  · intro fu s hs
    obtain ⟨y, rfl, hF, hO, hK⟩ := hs
    refine ⟨y, hF, hO, hK, ?_⟩
    show gsY_X11_goDay_1_L1 NF p1 v1 (fu + 1) (nI a) v1 y w1 g = _
    simp only [gsY_X11_goDay_1_L1, a2]
    rw [if_pos (show nI a ≤ nI a from nI_le (Nat.le_refl _) (by omega))]
def yAft (NF : Nat) (v1 : Nat → Int32) (F1 : Nat → Nat → Int32) (w1 : Int64) (g : Nat → Int64) : Int32 × (Nat → Int32) × (Nat → Nat → Int32) × Int64 × (Nat → Int64) :=
  match gsY_X11_fittedOnes_1 NF v1 F1 w1 g with
  | (r14, v16, f17, w18, g19) => gsY_X11_goDay_1_L22 NF v1 (gsY_X11_wearers_1 NF v1 F1 w1 g &&& (r14 ^^^ (-1))) (4294967296 + NF) 0 v16 f17 w18 g19
theorem yWeat {z : Nat} (hz : z ≤ 1) (a2 : v1 24 = nI a) (a3 : a ≤ 6) (b2 : v1 25 = nI b) (b3 : b ≤ 6) (hN : ∀ c, c < b → NBx 99 (F1 24 (12 + c)) ∧ NBx 99 (F1 24 (18 + c)) ∧ NBx 99 (F1 24 (30 + c))) : ∃ F' : Nat → Nat → Int32, (∀ q, q ≠ 24 → F' q = F1 q) ∧ WTH z b (fun c => ∃ m, m < a ∧ F1 24 (6 + m) = nI c) (F1 24) (F' 24) ∧ gsY_X11_goDay_1_L5 NF (nI z) v1 (4294967296 + NF) 0 v1 F1 w1 g = yAft NF v1 (upd2 F' 24 (upd (F' 24) 37 (F' 24 37 + 1))) w1 g := by
  refine lpQ (S := SY) (fun fu i s => gsY_X11_goDay_1_L5 NF (nI z) v1 fu i s.1 s.2.1 s.2.2.1 s.2.2.2) (fun r => ∃ F' : Nat → Nat → Int32, (∀ q, q ≠ 24 → F' q = F1 q) ∧ WTH z b (fun c => ∃ m, m < a ∧ F1 24 (6 + m) = nI c) (F1 24) (F' 24) ∧ r = yAft NF v1 (upd2 F' 24 (upd (F' 24) 37 (F' 24 37 + 1))) w1 g) (fun j s => ∃ F' : Nat → Nat → Int32, s = (v1, F', w1, g) ∧ (∀ q, q ≠ 24 → F' q = F1 q) ∧ WTH z b (fun c => c < j ∧ ∃ m, m < a ∧ F1 24 (6 + m) = nI c) (F1 24) (F' 24)) b ?_ ?_ b 0 (4294967296 + NF) (v1, F1, w1, g) (by omega) (by omega) ⟨F1, rfl, fun q _ => rfl, fun k _ => rfl, fun c hc => ⟨fun h => absurd h.1 (Nat.not_lt_zero _), fun _ => ⟨rfl, rfl, rfl⟩⟩⟩
  · intro fu j s hj hs
    obtain ⟨y, rfl, hF, hO, hC⟩ := hs
    obtain ⟨o1, o2, o3⟩ := (hC j hj).2 (fun h => absurd h.1 (Nat.lt_irrefl _))
    obtain ⟨b12, b18, b30⟩ := hN j hj
    obtain ⟨p1, p2⟩ := b12.nat (by decide)
    obtain ⟨p3, p4⟩ := b18.nat (by decide)
    obtain ⟨p5, p6⟩ := b30.nat (by decide)
    have yw : ∀ k, k < a → y 24 (6 + k) = F1 24 (6 + k) := fun k hk => hO _ (by omega)
    rcases yWearer (NF := NF) (f1 := y) (w1 := w1) (g := g) (q := nI j) a2 a3 with ⟨m, m1, m2, m3⟩ | ⟨n1, n2⟩
    · have hm : ∃ m, m < a ∧ F1 24 (6 + m) = nI j := ⟨m, m1, (yw m m1).symm.trans m2⟩
      generalize hU : upd (upd (upd (y 24) (30 + j) (nI (min 99 (nv (F1 24 (30 + j)) + 1)))) (12 + j) (nI (nv (F1 24 (12 + j)) - z))) (18 + j) (nI (nv (F1 24 (18 + j)) - z)) = U
      refine Or.inl ⟨(v1, upd2 y 24 U, w1, g), ⟨_, rfl, fun q hq => (u2n hq).trans (hF q hq), fun k hk => ?_, fun c hc => ?_⟩, ?_⟩
      · show U k = _
        rw [← hU, pk_un (by omega), pk_un (by omega), pk_un (by omega)]
        exact hO k hk
      · show (_ → U (12 + c) = _ ∧ U (18 + c) = _ ∧ U (30 + c) = _) ∧ (_ → U (12 + c) = _ ∧ U (18 + c) = _ ∧ U (30 + c) = _)
        by_cases e : c = j
        · subst e
          refine ⟨fun _ => ⟨?_, ?_, ?_⟩, fun n => absurd ⟨by omega, hm⟩ n⟩
          · rw [← hU, pk_un (by omega), pk_us]
          · rw [← hU, pk_us]
          · rw [← hU, pk_un (by omega), pk_un (by omega), pk_us]
        · have e1 : U (12 + c) = y 24 (12 + c) := by rw [← hU, pk_un (by omega), pk_un (by omega), pk_un (by omega)]
          have e2 : U (18 + c) = y 24 (18 + c) := by rw [← hU, pk_un (by omega), pk_un (by omega), pk_un (by omega)]
          have e3 : U (30 + c) = y 24 (30 + c) := by rw [← hU, pk_un (by omega), pk_un (by omega), pk_un (by omega)]
          rw [e1, e2, e3]
          exact ⟨fun h => (hC c hc).1 ⟨by omega, h.2⟩, fun n => (hC c hc).2 (fun h => n ⟨by omega, h.2⟩)⟩
      · show gsY_X11_goDay_1_L5 NF (nI z) v1 (fu + 1) (nI j) v1 y w1 g = gsY_X11_goDay_1_L5 NF (nI z) v1 fu (nI (j + 1)) v1 (upd2 y 24 U) w1 g
        have tr : ∀ (A : Nat → Nat → Int32), gsY_X11_truth_1 NF (nI z) v1 A w1 g = nI z := fun A => by
          rcases (show z = 0 ∨ z = 1 by omega) with e | e <;> (subst e; rfl)
        have k30 : (30 : Int32) + nI j = nI (30 + j) := nI_add 30 j
        have k12 : (12 : Int32) + nI j = nI (12 + j) := nI_add 12 j
        have k18 : (18 : Int32) + nI j = nI (18 + j) := nI_add 18 j
        have c30 : (nI (30 + j)).toNatClampNeg = 30 + j := nI_clamp (by omega)
        have c12 : (nI (12 + j)).toNatClampNeg = 12 + j := nI_clamp (by omega)
        have c18 : (nI (18 + j)).toNatClampNeg = 18 + j := nI_clamp (by omega)
        have u1 : ∀ (X : Nat → Int32) (q : Int32), upd X (30 + j) q (12 + j) = X (12 + j) := fun X q => pk_un (by omega)
        have u2 : ∀ (X : Nat → Int32) (q : Int32), upd X (30 + j) q (18 + j) = X (18 + j) := fun X q => pk_un (by omega)
        have u3 : ∀ (X : Nat → Int32) (q : Int32), upd X (12 + j) q (18 + j) = X (18 + j) := fun X q => pk_un (by omega)
        simp only [gsY_X11_goDay_1_L5, b2, m3, k30, k12, k18, c30, c12, c18, tr, u2s, u1, u2, u3, o1, o2, o3]
        rw [if_neg (show ¬ nI b ≤ nI j from nI_ge hj (by omega)), if_pos (nI_pos' (show m < 2 ^ 31 by omega)), p2, p4, p6]
        simp only [nI_1, les99 (NF := NF) (show nv (F1 24 (30 + j)) + 1 < 2 ^ 31 by omega), gre0 (NF := NF) (show nv (F1 24 (12 + j)) < 2 ^ 31 by omega) hz, gre0 (NF := NF) (show nv (F1 24 (18 + j)) < 2 ^ 31 by omega) hz, upd2_2]
        first | rw [← hU] | (rw [← hU, ← p2, ← p4, ← p6])
    · refine Or.inl ⟨(v1, y, w1, g), ⟨y, rfl, hF, hO, fun c hc => ?_⟩, ?_⟩
      · refine ⟨fun h => (hC c hc).1 ⟨?_, h.2⟩, fun n => (hC c hc).2 (fun h => n ⟨by omega, h.2⟩)⟩
        obtain ⟨h1, m, hm, em⟩ := h
        have : c ≠ j := fun q => n1 m hm (by rw [yw m hm, em, q])
        omega
      · show gsY_X11_goDay_1_L5 NF (nI z) v1 (fu + 1) (nI j) v1 y w1 g = gsY_X11_goDay_1_L5 NF (nI z) v1 fu (nI (j + 1)) v1 y w1 g
        simp only [gsY_X11_goDay_1_L5, b2, n2, nI_1]
        rw [if_neg (show ¬ nI b ≤ nI j from nI_ge hj (by omega)), if_neg (show ¬ (0 : Int32) ≤ -1 by decide)]
  · intro fu s hs
    obtain ⟨y, rfl, hF, hO, hC⟩ := hs
    refine ⟨y, hF, ⟨hO, fun c hc => ⟨fun h => (hC c hc).1 ⟨hc, h⟩, fun n => (hC c hc).2 (fun h => n h.2)⟩⟩, ?_⟩
    show gsY_X11_goDay_1_L5 NF (nI z) v1 (fu + 1) (nI b) v1 y w1 g = _
    simp only [gsY_X11_goDay_1_L5, b2, cN37]
    rw [if_pos (show nI b ≤ nI b from nI_le (Nat.le_refl _) (by omega))]
    rfl
end
end
