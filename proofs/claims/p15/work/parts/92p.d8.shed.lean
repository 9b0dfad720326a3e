section
variable {NF : Nat}
def wrB (x : Nat → Int32) (m : Nat) : Bool := decide (¬ x (6 + m) = -1)
def ftB (e : Int32) (r : Nat → Nat → Int32) (x : Nat → Int32) (m : Nat) : Bool := wrB x m && decide (¬ e < r m (nv (x (6 + m))))
def shB (e : Int32) (r : Nat → Nat → Int32) (x : Nat → Int32) (m : Nat) : Bool := wrB x m && !ftB e r x m
theorem wrB_1 {x : Nat → Int32} {m : Nat} (h : ¬ x (6 + m) = -1) : wrB x m = true := decide_eq_true h
theorem wrB_0 {x : Nat → Int32} {m : Nat} (h : x (6 + m) = -1) : wrB x m = false := decide_eq_false (fun z => z h)
theorem nv_nI {c : Nat} (h : c < 2 ^ 31) : nv (nI c) = c := nI_clamp h
section
variable {v1 : Nat → Int32} {F1 : Nat → Nat → Int32} {w1 : Int64} {g : Nat → Int64} {a b : Nat}
theorem yWearers {x : Nat → Int32} (a2 : v1 24 = nI a) (a3 : a ≤ 6) (hw : ∀ m, m < a → F1 24 (6 + m) = x (6 + m) ∧ (x (6 + m) = -1 ∨ ∃ c, c < b ∧ x (6 + m) = nI c)) (b3 : b ≤ 6) : gsY_X11_wearers_1 NF v1 F1 w1 g = nI (bts (wrB x) a) := by
  refine lpQ (S := Int32) (fun fu i s => gsY_X11_wearers_1_L1 NF v1 F1 w1 g fu s i) (fun r => r = nI (bts (wrB x) a)) (fun j s => s = nI (bts (wrB x) j)) a ?_ ?_ a 0 (4294967296 + NF) 0 (by omega) (by omega) rfl
  · intro fu j s hj hs
    have hs : s = nI (bts (wrB x) j) := hs
    obtain ⟨o1, o2⟩ := bts_or (p := wrB x) (n := j) (by omega)
    obtain ⟨q1, q2⟩ := hw j hj
    refine Or.inl ⟨nI (bts (wrB x) (j + 1)), rfl, ?_⟩
    show gsY_X11_wearers_1_L1 NF v1 F1 w1 g (fu + 1) s (nI j) = gsY_X11_wearers_1_L1 NF v1 F1 w1 g fu (nI (bts (wrB x) (j + 1))) (nI (j + 1))
    simp only [gsY_X11_wearers_1_L1, a2, show (6 : Int32) + nI j = nI (6 + j) from nI_add 6 j, nI_clamp (show 6 + j < 2 ^ 31 by omega), q1, nI_1, show gsY_X11_truth_1 NF 0 v1 F1 w1 g = 0 from rfl, show gsY_X11_truth_1 NF 1 v1 F1 w1 g = 1 from rfl, hs]
    rw [if_neg (show ¬ nI a ≤ nI j from nI_ge hj (by omega))]
    rcases q2 with q2 | ⟨c, hc, q2⟩
    · rw [if_pos (show x (6 + j) < 0 by rw [q2]; decide), (o2 (by rw [wrB_0 q2]; decide)).1]
    · rw [if_neg (show ¬ x (6 + j) < 0 by rw [q2]; exact nI_pos (by omega)), o1 (wrB_1 (by rw [q2]; exact nI_nm1 (by omega)))]
  · intro fu s hs
    have hs : s = nI (bts (wrB x) a) := hs
    show gsY_X11_wearers_1_L1 NF v1 F1 w1 g (fu + 1) s (nI a) = _
    simp only [gsY_X11_wearers_1_L1, a2]
    rw [if_pos (nI_le (Nat.le_refl _) (by omega))]
    exact hs
theorem yFitted {v : Nat → Int32} {f : Nat → Nat → Int32} {f1 : Nat → Nat → Int32} {x : Nat → Int32} {D : Nat} (a1 : v 31 = nI a) (a2 : v1 24 = nI a) (a3 : a ≤ 6) (b1 : v 32 = nI b) (b3 : b ≤ 6) (sm : STM f f1 a) (sf : STF v f v1 f1) (es : v 33 = v1 26) (hD : D ≤ 9999) (hF1 : ∀ q, q = 4 ∨ q = 5 ∨ q = 16 → F1 q = f1 q) (hn : CMS D a b x (F1 24)) (hw : ∀ m, m < a → F1 24 (6 + m) = x (6 + m) ∧ (x (6 + m) = -1 ∨ ∃ c, c < b ∧ x (6 + m) = nI c)) : ∃ F' : Nat → Nat → Int32, (∀ q, q ≠ 7 → q ≠ 8 → F' q = F1 q) ∧ gsY_X11_fittedOnes_1 NF v1 F1 w1 g = (nI (bts (ftB (v 33) (yI NF v1 F1 w1 g) x) a), v1, F', w1, g) := by
  refine lpQ (S := Int32 × SY) (fun fu i s => gsY_X11_fittedOnes_1_L1 NF v1 fu s.1 i s.2.1 s.2.2.1 s.2.2.2.1 s.2.2.2.2) (fun r => ∃ F' : Nat → Nat → Int32, (∀ q, q ≠ 7 → q ≠ 8 → F' q = F1 q) ∧ r = (nI (bts (ftB (v 33) (yI NF v1 F1 w1 g) x) a), v1, F', w1, g)) (fun j s => ∃ F' : Nat → Nat → Int32, s = (nI (bts (ftB (v 33) (yI NF v1 F1 w1 g) x) j), v1, F', w1, g) ∧ (∀ q, q ≠ 7 → q ≠ 8 → F' q = F1 q)) a ?_ ?_ a 0 (4294967296 + NF) (0, v1, F1, w1, g) (by omega) (by omega) ⟨F1, rfl, fun q _ _ => rfl⟩
  · intro fu j s hj hs
    obtain ⟨y, rfl, hF⟩ := hs
    obtain ⟨o1, o2⟩ := bts_or (p := ftB (v 33) (yI NF v1 F1 w1 g) x) (n := j) (by omega)
    obtain ⟨q1, q2⟩ := hw j hj
    have y24 : y 24 = F1 24 := hF 24 (by decide) (by decide)
    have k6 : (6 : Int32) + nI j = nI (6 + j) := nI_add 6 j
    have c6 : (nI (6 + j)).toNatClampNeg = 6 + j := nI_clamp (by omega)
    rcases q2 with q2 | ⟨c, hc, q2⟩
    · have w0 := wrB_0 q2
      have fo : gsY_X11_fitsOwn_1 NF (nI j) v1 y w1 g = (0, v1, y, w1, g) := by
        simp only [gsY_X11_fitsOwn_1, k6, c6, y24, q1, q2, gsY_X11_fits_1, if_pos m1_lt, ite01]
      refine Or.inl ⟨(nI (bts (ftB (v 33) (yI NF v1 F1 w1 g) x) (j + 1)), v1, y, w1, g), ⟨y, rfl, hF⟩, ?_⟩
      show gsY_X11_fittedOnes_1_L1 NF v1 (fu + 1) (nI (bts (ftB (v 33) (yI NF v1 F1 w1 g) x) j)) (nI j) v1 y w1 g = gsY_X11_fittedOnes_1_L1 NF v1 fu (nI (bts (ftB (v 33) (yI NF v1 F1 w1 g) x) (j + 1))) (nI (j + 1)) v1 y w1 g
      simp only [gsY_X11_fittedOnes_1_L1, a2, fo, ite01, show gsY_X11_truth_1 NF 0 v1 y w1 g = 0 from rfl, nI_1]
      rw [if_neg (show ¬ nI a ≤ nI j from nI_ge hj (by omega)), (o2 (by unfold ftB; rw [w0, Bool.false_and]; decide)).1]
    · have w1' := wrB_1 (x := x) (m := j) (by rw [q2]; exact nI_nm1 (by omega))
      have ec : nv (x (6 + j)) = c := by rw [q2]; exact nv_nI (by omega)
      obtain ⟨B, i1, i2, i3, _⟩ := illY (NF := NF) (F1 := F1) (F2 := y) (w1 := w1) (g := g) a1 a3 b1 b3 sm sf hD hF1 (fun q hq => (hF q (by omega) (by omega)).trans (hF1 q hq)) hn (by rw [y24]; exact hn) hj hc
      have fo : gsY_X11_fitsOwn_1 NF (nI j) v1 y w1 g = ((if v1 26 < yI NF v1 F1 w1 g j c then 0 else 1), v1, B, w1, g) := by
        simp only [gsY_X11_fitsOwn_1, k6, c6, y24, q1, q2, i2]
        by_cases z : v1 26 < yI NF v1 F1 w1 g j c
        · rw [if_pos z]; exact ite01
        · rw [if_neg z]; first | exact ite11 | exact if_pos trivial
      have hB : ∀ q, q ≠ 7 → q ≠ 8 → B q = F1 q := fun q z1 z2 => (i3 q z1 z2).trans (hF q z1 z2)
      refine Or.inl ⟨(nI (bts (ftB (v 33) (yI NF v1 F1 w1 g) x) (j + 1)), v1, B, w1, g), ⟨B, rfl, hB⟩, ?_⟩
      show gsY_X11_fittedOnes_1_L1 NF v1 (fu + 1) (nI (bts (ftB (v 33) (yI NF v1 F1 w1 g) x) j)) (nI j) v1 y w1 g = gsY_X11_fittedOnes_1_L1 NF v1 fu (nI (bts (ftB (v 33) (yI NF v1 F1 w1 g) x) (j + 1))) (nI (j + 1)) v1 B w1 g
      simp only [gsY_X11_fittedOnes_1_L1, a2, fo, show gsY_X11_truth_1 NF 0 v1 B w1 g = 0 from rfl, show gsY_X11_truth_1 NF 1 v1 B w1 g = 1 from rfl, nI_1]
      rw [if_neg (show ¬ nI a ≤ nI j from nI_ge hj (by omega))]
      have ef : ftB (v 33) (yI NF v1 F1 w1 g) x j = decide (¬ v 33 < yI NF v1 F1 w1 g j c) := by
        unfold ftB; rw [w1', ec, Bool.true_and]
      by_cases z : v1 26 < yI NF v1 F1 w1 g j c
      · rw [if_pos z, ite01, (o2 (by rw [ef, decide_eq_false (fun q => q (by rw [es]; exact z))]; decide)).1]
      · rw [if_neg z, ite11, o1 (by rw [ef, decide_eq_true (by rw [es]; exact z)])]
  · intro fu s hs
    obtain ⟨y, rfl, hF⟩ := hs
    refine ⟨y, hF, ?_⟩
    show gsY_X11_fittedOnes_1_L1 NF v1 (fu + 1) (nI (bts (ftB (v 33) (yI NF v1 F1 w1 g) x) a)) (nI a) v1 y w1 g = _
    simp only [gsY_X11_fittedOnes_1_L1, a2]
    rw [if_pos (nI_le (Nat.le_refl _) (by omega))]
theorem yShed {p : Nat → Bool} (a2 : v1 24 = nI a) (a3 : a ≤ 6) {vv : Nat → Int32} (av : vv 24 = nI a) : ∃ F' : Nat → Nat → Int32, (∀ q, q ≠ 24 → F' q = F1 q) ∧ (∀ k, ¬ (6 ≤ k ∧ k < 6 + a) → F' 24 k = F1 24 k) ∧ (∀ m, m < a → F' 24 (6 + m) = if p m = true then -1 else F1 24 (6 + m)) ∧ gsY_X11_goDay_1_L22 NF vv (nI (bts p a)) (4294967296 + NF) 0 v1 F1 w1 g = (nI (bts p a), v1, F', w1, g) := by
  have b64 : bts p a < 64 := by
    have h := bts_lt p a a3
    have h' := p2le a a3
    omega
  refine lpQ (S := SY) (fun fu i s => gsY_X11_goDay_1_L22 NF vv (nI (bts p a)) fu i s.1 s.2.1 s.2.2.1 s.2.2.2) (fun r => ∃ F' : Nat → Nat → Int32, (∀ q, q ≠ 24 → F' q = F1 q) ∧ (∀ k, ¬ (6 ≤ k ∧ k < 6 + a) → F' 24 k = F1 24 k) ∧ (∀ m, m < a → F' 24 (6 + m) = if p m = true then -1 else F1 24 (6 + m)) ∧ r = (nI (bts p a), v1, F', w1, g)) (fun j s => ∃ F' : Nat → Nat → Int32, s = (v1, F', w1, g) ∧ (∀ q, q ≠ 24 → F' q = F1 q) ∧ (∀ k, ¬ (6 ≤ k ∧ k < 6 + j) → F' 24 k = F1 24 k) ∧ (∀ m, m < j → F' 24 (6 + m) = if p m = true then -1 else F1 24 (6 + m))) a ?_ ?_ a 0 (4294967296 + NF) (v1, F1, w1, g) (by omega) (by omega) ⟨F1, rfl, fun q _ => rfl, fun i _ => rfl, fun k hk => absurd hk (Nat.not_lt_zero _)⟩
  · intro fu j s hj hs
    obtain ⟨y, rfl, hF, hO, hK⟩ := hs
    obtain ⟨B1, _⟩ := bitT (bts p a) b64 j (by omega)
    rw [bts_bit p a a3 j hj] at B1
    by_cases c : p j = true
    · rw [if_pos c] at B1
      refine Or.inl ⟨(v1, upd2 y 24 (upd (y 24) (6 + j) (-1)), w1, g), ⟨_, rfl, fun q hq => (u2n hq).trans (hF q hq), fun k hk => ?_, fun m hm => ?_⟩, ?_⟩
      · show upd (y 24) (6 + j) (-1) k = _
        rw [pk_un (by omega)]; exact hO k (by omega)
      · show upd (y 24) (6 + j) (-1) (6 + m) = _
        by_cases e : m = j
        · rw [e, pk_us, if_pos c]
        · rw [pk_un (by omega)]; exact hK m (by omega)
      · show gsY_X11_goDay_1_L22 NF vv (nI (bts p a)) (fu + 1) (nI j) v1 y w1 g = gsY_X11_goDay_1_L22 NF vv (nI (bts p a)) fu (nI (j + 1)) v1 _ w1 g
        simp only [gsY_X11_goDay_1_L22, av, B1, show (6 : Int32) + nI j = nI (6 + j) from nI_add 6 j, nI_clamp (show 6 + j < 2 ^ 31 by omega), nI_1]
        rw [if_neg (show ¬ nI a ≤ nI j from nI_ge hj (by omega)), if_pos (show nI 1 = (1 : Int32) from rfl)]
    · rw [if_neg c] at B1
      refine Or.inl ⟨(v1, y, w1, g), ⟨y, rfl, hF, fun k hk => hO k (by omega), fun m hm => ?_⟩, ?_⟩
      · by_cases e : m = j
        · rw [e, if_neg c]; exact hO _ (by omega)
        · exact hK m (by omega)
      · show gsY_X11_goDay_1_L22 NF vv (nI (bts p a)) (fu + 1) (nI j) v1 y w1 g = gsY_X11_goDay_1_L22 NF vv (nI (bts p a)) fu (nI (j + 1)) v1 y w1 g
        simp only [gsY_X11_goDay_1_L22, av, B1, nI_1]
        rw [if_neg (show ¬ nI a ≤ nI j from nI_ge hj (by omega)), if_neg (show ¬ nI 0 = (1 : Int32) by decide)]
  · intro fu s hs
    obtain ⟨y, rfl, hF, hO, hK⟩ := hs
    refine ⟨y, hF, hO, hK, ?_⟩
    show gsY_X11_goDay_1_L22 NF vv (nI (bts p a)) (fu + 1) (nI a) v1 y w1 g = _
    simp only [gsY_X11_goDay_1_L22, av]
    rw [if_pos (nI_le (Nat.le_refl _) (by omega))]
end
theorem xShed1_21 {v : Nat → Int32} {f F : Nat → Nat → Int32} {v1 : Nat → Int32} {f1 F1 : Nat → Nat → Int32} {w1 : Int64} {g : Nat → Int64} {a b D : Nat} (a1 : v 31 = nI a) (a3 : a ≤ 6) (b1 : v 32 = nI b) (b3 : b ≤ 6) (sm : STM f f1 a) (sf : STF v f v1 f1) (hD : D ≤ 9999) (hF : ∀ q, q = 9 ∨ q = 11 ∨ q = 12 → F q = f q) (hF1 : ∀ q, q = 4 ∨ q = 5 ∨ q = 16 → F1 q = f1 q) (hn : CMS D a b (F 15) (F1 24)) (hw : ∀ m, m < a → F 15 (6 + m) = -1 ∨ ∃ c, c < b ∧ F 15 (6 + m) = nI c) : ∃ F' : Nat → Nat → Int32, (∀ q, q ≠ 13 → q ≠ 14 → q ≠ 15 → F' q = F q) ∧ (∀ k, ¬ (6 ≤ k ∧ k < 6 + a) → F' 15 k = F 15 k) ∧ (∀ m, m < a → F' 15 (6 + m) = if shB (v 33) (yI NF v1 F1 w1 g) (F 15) m = true then -1 else F 15 (6 + m)) ∧ gsX_X1_passDay_1_L21 NF v (4294967296 + NF) 0 0 v F = (nI (bts (shB (v 33) (yI NF v1 F1 w1 g) (F 15)) a), v, F') := by
  refine lpQ (S := Int32 × SX) (fun fu i s => gsX_X1_passDay_1_L21 NF v fu s.1 i s.2.1 s.2.2) (fun r => ∃ F' : Nat → Nat → Int32, (∀ q, q ≠ 13 → q ≠ 14 → q ≠ 15 → F' q = F q) ∧ (∀ k, ¬ (6 ≤ k ∧ k < 6 + a) → F' 15 k = F 15 k) ∧ (∀ m, m < a → F' 15 (6 + m) = if shB (v 33) (yI NF v1 F1 w1 g) (F 15) m = true then -1 else F 15 (6 + m)) ∧ r = (nI (bts (shB (v 33) (yI NF v1 F1 w1 g) (F 15)) a), v, F')) (fun j s => ∃ F' : Nat → Nat → Int32, s = (nI (bts (shB (v 33) (yI NF v1 F1 w1 g) (F 15)) j), v, F') ∧ (∀ q, q ≠ 13 → q ≠ 14 → q ≠ 15 → F' q = F q) ∧ (∀ k, ¬ (6 ≤ k ∧ k < 6 + j) → F' 15 k = F 15 k) ∧ (∀ m, m < j → F' 15 (6 + m) = if shB (v 33) (yI NF v1 F1 w1 g) (F 15) m = true then -1 else F 15 (6 + m))) a ?_ ?_ a 0 (4294967296 + NF) (0, v, F) (by omega) (by omega) ⟨F, rfl, fun q _ _ _ => rfl, fun i _ => rfl, fun k hk => absurd hk (Nat.not_lt_zero _)⟩
  · intro fu j s hj hs
    obtain ⟨y, rfl, hY, hO, hK⟩ := hs
    obtain ⟨o1, o2⟩ := bts_or (p := shB (v 33) (yI NF v1 F1 w1 g) (F 15)) (n := j) (by omega)
    have yw : gsX_X1_wears_1 NF (nI j) v y = F 15 (6 + j) := (xWears1 a1 a3 hj).trans (hO (6 + j) (by omega))
    rcases hw j hj with q2 | ⟨c, hc, q2⟩
    · have w0 := wrB_0 q2
      have s0 : ¬ shB (v 33) (yI NF v1 F1 w1 g) (F 15) j = true := by unfold shB; rw [w0, Bool.false_and]; decide
      refine Or.inl ⟨(nI (bts (shB (v 33) (yI NF v1 F1 w1 g) (F 15)) (j + 1)), v, y), ⟨y, rfl, hY, fun k hk => hO k (by omega), fun m hm => ?_⟩, ?_⟩
      · by_cases e : m = j
        · rw [e, if_neg s0]; exact hO _ (by omega)
        · exact hK m (by omega)
      · show gsX_X1_passDay_1_L21 NF v (fu + 1) (nI (bts (shB (v 33) (yI NF v1 F1 w1 g) (F 15)) j)) (nI j) v y = gsX_X1_passDay_1_L21 NF v fu (nI (bts (shB (v 33) (yI NF v1 F1 w1 g) (F 15)) (j + 1))) (nI (j + 1)) v y
        rw [← (o2 s0).2]
        conv => lhs; unfold gsX_X1_passDay_1_L21
        simp only [a1, yw, q2, nI_1]
        rw [if_neg (show ¬ nI a ≤ nI j from nI_ge hj (by omega)), if_pos trivial]
    · have w1' := wrB_1 (x := F 15) (m := j) (by rw [q2]; exact nI_nm1 (by omega))
      have ec : nv (F 15 (6 + j)) = c := by rw [q2]; exact nv_nI (by omega)
      have nm : ¬ nI c = -1 := nI_nm1 (by omega)
      have hn' : CMS D a b (y 15) (F1 24) := hn.cg a3 b3 (fun k hk => hO k (by omega)) (fun k _ => rfl)
      obtain ⟨B, i1, i2, i3⟩ := fitX1 (NF := NF) (v1 := v1) (F1 := F1) (w1 := w1) (g := g) a1 a3 b1 b3 sm sf hD (fun q hq => (hY q (by omega) (by omega) (by omega)).trans (hF q hq)) hF1 hn' hj hc
      have ef : shB (v 33) (yI NF v1 F1 w1 g) (F 15) j = !decide (¬ v 33 < yI NF v1 F1 w1 g j c) := by
        unfold shB ftB; rw [w1', ec, Bool.true_and, Bool.true_and]
      by_cases z : v 33 < yI NF v1 F1 w1 g j c
      · have s1 : shB (v 33) (yI NF v1 F1 w1 g) (F 15) j = true := by rw [ef, decide_eq_false (fun q => q z)]; decide
        rw [if_pos z] at i2
        have sw : gsX_X1_setWears_1 NF (nI j) (-1) v B = (v, upd2 B 15 (upd (B 15) (6 + j) (-1))) := xSetW1 a1 a3 hj
        have bA : B 15 = y 15 := i3 15 (by decide) (by decide)
        refine Or.inl ⟨(nI (bts (shB (v 33) (yI NF v1 F1 w1 g) (F 15)) (j + 1)), v, upd2 B 15 (upd (B 15) (6 + j) (-1))), ⟨_, rfl, fun q z1 z2 z3 => (u2n z3).trans ((i3 q z1 z2).trans (hY q z1 z2 z3)), fun k hk => ?_, fun m hm => ?_⟩, ?_⟩
        · show upd (B 15) (6 + j) (-1) k = _
          rw [pk_un (by omega), bA]; exact hO k (by omega)
        · show upd (B 15) (6 + j) (-1) (6 + m) = _
          by_cases e : m = j
          · rw [e, pk_us, if_pos s1]
          · rw [pk_un (by omega), bA]; exact hK m (by omega)
        · show gsX_X1_passDay_1_L21 NF v (fu + 1) (nI (bts (shB (v 33) (yI NF v1 F1 w1 g) (F 15)) j)) (nI j) v y = gsX_X1_passDay_1_L21 NF v fu (nI (bts (shB (v 33) (yI NF v1 F1 w1 g) (F 15)) (j + 1))) (nI (j + 1)) v _
          rw [← o1 s1]
          conv => lhs; unfold gsX_X1_passDay_1_L21
          simp only [a1, yw, q2, nI_1, if_neg nm, i2, ite01, sw]
          rw [if_neg (show ¬ nI a ≤ nI j from nI_ge hj (by omega))]
      · have s0 : ¬ shB (v 33) (yI NF v1 F1 w1 g) (F 15) j = true := by rw [ef, decide_eq_true z]; decide
        rw [if_neg z] at i2
        have bA : B 15 = y 15 := i3 15 (by decide) (by decide)
        refine Or.inl ⟨(nI (bts (shB (v 33) (yI NF v1 F1 w1 g) (F 15)) (j + 1)), v, B), ⟨B, rfl, fun q z1 z2 z3 => (i3 q z1 z2).trans (hY q z1 z2 z3), fun k hk => by rw [bA]; exact hO k (by omega), fun m hm => ?_⟩, ?_⟩
        · rw [bA]
          by_cases e : m = j
          · rw [e, if_neg s0]; exact hO _ (by omega)
          · exact hK m (by omega)
        · show gsX_X1_passDay_1_L21 NF v (fu + 1) (nI (bts (shB (v 33) (yI NF v1 F1 w1 g) (F 15)) j)) (nI j) v y = gsX_X1_passDay_1_L21 NF v fu (nI (bts (shB (v 33) (yI NF v1 F1 w1 g) (F 15)) (j + 1))) (nI (j + 1)) v B
          rw [← (o2 s0).2]
          conv => lhs; unfold gsX_X1_passDay_1_L21
          simp only [a1, yw, q2, nI_1, if_neg nm, i2, ite11, if_true]
          rw [if_neg (show ¬ nI a ≤ nI j from nI_ge hj (by omega))]
  · intro fu s hs
    obtain ⟨y, rfl, hY, hO, hK⟩ := hs
    refine ⟨y, hY, hO, hK, ?_⟩
    show gsX_X1_passDay_1_L21 NF v (fu + 1) (nI (bts (shB (v 33) (yI NF v1 F1 w1 g) (F 15)) a)) (nI a) v y = _
    simp only [gsX_X1_passDay_1_L21, a1]
    rw [if_pos (nI_le (Nat.le_refl _) (by omega))]
theorem xShed1_62 {v : Nat → Int32} {f F : Nat → Nat → Int32} {v1 : Nat → Int32} {f1 F1 : Nat → Nat → Int32} {w1 : Int64} {g : Nat → Int64} {a b D : Nat} (a1 : v 31 = nI a) (a3 : a ≤ 6) (b1 : v 32 = nI b) (b3 : b ≤ 6) (sm : STM f f1 a) (sf : STF v f v1 f1) (hD : D ≤ 9999) (hF : ∀ q, q = 9 ∨ q = 11 ∨ q = 12 → F q = f q) (hF1 : ∀ q, q = 4 ∨ q = 5 ∨ q = 16 → F1 q = f1 q) (hn : CMS D a b (F 15) (F1 24)) (hw : ∀ m, m < a → F 15 (6 + m) = -1 ∨ ∃ c, c < b ∧ F 15 (6 + m) = nI c) : ∃ F' : Nat → Nat → Int32, (∀ q, q ≠ 13 → q ≠ 14 → q ≠ 15 → F' q = F q) ∧ (∀ k, ¬ (6 ≤ k ∧ k < 6 + a) → F' 15 k = F 15 k) ∧ (∀ m, m < a → F' 15 (6 + m) = if shB (v 33) (yI NF v1 F1 w1 g) (F 15) m = true then -1 else F 15 (6 + m)) ∧ gsX_X1_passDay_1_L62 NF v (4294967296 + NF) 0 0 v F = (nI (bts (shB (v 33) (yI NF v1 F1 w1 g) (F 15)) a), v, F') := by
  refine lpQ (S := Int32 × SX) (fun fu i s => gsX_X1_passDay_1_L62 NF v fu s.1 i s.2.1 s.2.2) (fun r => ∃ F' : Nat → Nat → Int32, (∀ q, q ≠ 13 → q ≠ 14 → q ≠ 15 → F' q = F q) ∧ (∀ k, ¬ (6 ≤ k ∧ k < 6 + a) → F' 15 k = F 15 k) ∧ (∀ m, m < a → F' 15 (6 + m) = if shB (v 33) (yI NF v1 F1 w1 g) (F 15) m = true then -1 else F 15 (6 + m)) ∧ r = (nI (bts (shB (v 33) (yI NF v1 F1 w1 g) (F 15)) a), v, F')) (fun j s => ∃ F' : Nat → Nat → Int32, s = (nI (bts (shB (v 33) (yI NF v1 F1 w1 g) (F 15)) j), v, F') ∧ (∀ q, q ≠ 13 → q ≠ 14 → q ≠ 15 → F' q = F q) ∧ (∀ k, ¬ (6 ≤ k ∧ k < 6 + j) → F' 15 k = F 15 k) ∧ (∀ m, m < j → F' 15 (6 + m) = if shB (v 33) (yI NF v1 F1 w1 g) (F 15) m = true then -1 else F 15 (6 + m))) a ?_ ?_ a 0 (4294967296 + NF) (0, v, F) (by omega) (by omega) ⟨F, rfl, fun q _ _ _ => rfl, fun i _ => rfl, fun k hk => absurd hk (Nat.not_lt_zero _)⟩
  · intro fu j s hj hs
    obtain ⟨y, rfl, hY, hO, hK⟩ := hs
    obtain ⟨o1, o2⟩ := bts_or (p := shB (v 33) (yI NF v1 F1 w1 g) (F 15)) (n := j) (by omega)
    have yw : gsX_X1_wears_1 NF (nI j) v y = F 15 (6 + j) := (xWears1 a1 a3 hj).trans (hO (6 + j) (by omega))
    rcases hw j hj with q2 | ⟨c, hc, q2⟩
    · have w0 := wrB_0 q2
      have s0 : ¬ shB (v 33) (yI NF v1 F1 w1 g) (F 15) j = true := by unfold shB; rw [w0, Bool.false_and]; decide
      refine Or.inl ⟨(nI (bts (shB (v 33) (yI NF v1 F1 w1 g) (F 15)) (j + 1)), v, y), ⟨y, rfl, hY, fun k hk => hO k (by omega), fun m hm => ?_⟩, ?_⟩
      · by_cases e : m = j
        · rw [e, if_neg s0]; exact hO _ (by omega)
        · exact hK m (by omega)
      · show gsX_X1_passDay_1_L62 NF v (fu + 1) (nI (bts (shB (v 33) (yI NF v1 F1 w1 g) (F 15)) j)) (nI j) v y = gsX_X1_passDay_1_L62 NF v fu (nI (bts (shB (v 33) (yI NF v1 F1 w1 g) (F 15)) (j + 1))) (nI (j + 1)) v y
        rw [← (o2 s0).2]
        conv => lhs; unfold gsX_X1_passDay_1_L62
        simp only [a1, yw, q2, nI_1]
        rw [if_neg (show ¬ nI a ≤ nI j from nI_ge hj (by omega)), if_pos trivial]
    · have w1' := wrB_1 (x := F 15) (m := j) (by rw [q2]; exact nI_nm1 (by omega))
      have ec : nv (F 15 (6 + j)) = c := by rw [q2]; exact nv_nI (by omega)
      have nm : ¬ nI c = -1 := nI_nm1 (by omega)
      have hn' : CMS D a b (y 15) (F1 24) := hn.cg a3 b3 (fun k hk => hO k (by omega)) (fun k _ => rfl)
      obtain ⟨B, i1, i2, i3⟩ := fitX1 (NF := NF) (v1 := v1) (F1 := F1) (w1 := w1) (g := g) a1 a3 b1 b3 sm sf hD (fun q hq => (hY q (by omega) (by omega) (by omega)).trans (hF q hq)) hF1 hn' hj hc
      have ef : shB (v 33) (yI NF v1 F1 w1 g) (F 15) j = !decide (¬ v 33 < yI NF v1 F1 w1 g j c) := by
        unfold shB ftB; rw [w1', ec, Bool.true_and, Bool.true_and]
      by_cases z : v 33 < yI NF v1 F1 w1 g j c
      · have s1 : shB (v 33) (yI NF v1 F1 w1 g) (F 15) j = true := by rw [ef, decide_eq_false (fun q => q z)]; decide
        rw [if_pos z] at i2
        have sw : gsX_X1_setWears_1 NF (nI j) (-1) v B = (v, upd2 B 15 (upd (B 15) (6 + j) (-1))) := xSetW1 a1 a3 hj
        have bA : B 15 = y 15 := i3 15 (by decide) (by decide)
        refine Or.inl ⟨(nI (bts (shB (v 33) (yI NF v1 F1 w1 g) (F 15)) (j + 1)), v, upd2 B 15 (upd (B 15) (6 + j) (-1))), ⟨_, rfl, fun q z1 z2 z3 => (u2n z3).trans ((i3 q z1 z2).trans (hY q z1 z2 z3)), fun k hk => ?_, fun m hm => ?_⟩, ?_⟩
        · show upd (B 15) (6 + j) (-1) k = _
          rw [pk_un (by omega), bA]; exact hO k (by omega)
        · show upd (B 15) (6 + j) (-1) (6 + m) = _
          by_cases e : m = j
          · rw [e, pk_us, if_pos s1]
          · rw [pk_un (by omega), bA]; exact hK m (by omega)
        · show gsX_X1_passDay_1_L62 NF v (fu + 1) (nI (bts (shB (v 33) (yI NF v1 F1 w1 g) (F 15)) j)) (nI j) v y = gsX_X1_passDay_1_L62 NF v fu (nI (bts (shB (v 33) (yI NF v1 F1 w1 g) (F 15)) (j + 1))) (nI (j + 1)) v _
          rw [← o1 s1]
          conv => lhs; unfold gsX_X1_passDay_1_L62
          simp only [a1, yw, q2, nI_1, if_neg nm, i2, ite01, sw]
          rw [if_neg (show ¬ nI a ≤ nI j from nI_ge hj (by omega))]
      · have s0 : ¬ shB (v 33) (yI NF v1 F1 w1 g) (F 15) j = true := by rw [ef, decide_eq_true z]; decide
        rw [if_neg z] at i2
        have bA : B 15 = y 15 := i3 15 (by decide) (by decide)
        refine Or.inl ⟨(nI (bts (shB (v 33) (yI NF v1 F1 w1 g) (F 15)) (j + 1)), v, B), ⟨B, rfl, fun q z1 z2 z3 => (i3 q z1 z2).trans (hY q z1 z2 z3), fun k hk => by rw [bA]; exact hO k (by omega), fun m hm => ?_⟩, ?_⟩
        · rw [bA]
          by_cases e : m = j
          · rw [e, if_neg s0]; exact hO _ (by omega)
          · exact hK m (by omega)
        · show gsX_X1_passDay_1_L62 NF v (fu + 1) (nI (bts (shB (v 33) (yI NF v1 F1 w1 g) (F 15)) j)) (nI j) v y = gsX_X1_passDay_1_L62 NF v fu (nI (bts (shB (v 33) (yI NF v1 F1 w1 g) (F 15)) (j + 1))) (nI (j + 1)) v B
          rw [← (o2 s0).2]
          conv => lhs; unfold gsX_X1_passDay_1_L62
          simp only [a1, yw, q2, nI_1, if_neg nm, i2, ite11, if_true]
          rw [if_neg (show ¬ nI a ≤ nI j from nI_ge hj (by omega))]
  · intro fu s hs
    obtain ⟨y, rfl, hY, hO, hK⟩ := hs
    refine ⟨y, hY, hO, hK, ?_⟩
    show gsX_X1_passDay_1_L62 NF v (fu + 1) (nI (bts (shB (v 33) (yI NF v1 F1 w1 g) (F 15)) a)) (nI a) v y = _
    simp only [gsX_X1_passDay_1_L62, a1]
    rw [if_pos (nI_le (Nat.le_refl _) (by omega))]
end
