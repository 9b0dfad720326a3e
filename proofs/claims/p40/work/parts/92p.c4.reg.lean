section
variable {NF : Nat}
theorem yRegMa {vv : Nat → Int32} {V : Nat → Int32} {F0 : Nat → Nat → Int32} {W : Int64} {G : Nat → Int64} {n : Nat} (hn : vv 17 = nI n) (hb : n ≤ 6) : ∃ F' : Nat → Nat → Int32, (∀ q, q ≠ 16 → q ≠ 17 → q ≠ 18 → F' q = F0 q) ∧ (∀ i, ¬ i < n → F' 16 i = F0 16 i) ∧ (∀ i, ¬ i < n → F' 17 i = F0 17 i) ∧ (∀ i, ¬ i < n → F' 18 i = F0 18 i) ∧ (∀ k, k < n → F' 16 k = F0 9 k ∧ F' 17 k = F0 10 k ∧ F' 18 k = F0 11 k) ∧ gsY_X11_regiment_1_L12 NF vv (4294967296 + NF) 0 V F0 W G = gsY_X11_regiment_1_L16 NF vv (4294967296 + NF) 0 V F' W G := by
  refine lpQ (S := SY) (fun fu i s => gsY_X11_regiment_1_L12 NF vv fu i s.1 s.2.1 s.2.2.1 s.2.2.2) (fun r => ∃ F' : Nat → Nat → Int32, (∀ q, q ≠ 16 → q ≠ 17 → q ≠ 18 → F' q = F0 q) ∧ (∀ i, ¬ i < n → F' 16 i = F0 16 i) ∧ (∀ i, ¬ i < n → F' 17 i = F0 17 i) ∧ (∀ i, ¬ i < n → F' 18 i = F0 18 i) ∧ (∀ k, k < n → F' 16 k = F0 9 k ∧ F' 17 k = F0 10 k ∧ F' 18 k = F0 11 k) ∧ r = gsY_X11_regiment_1_L16 NF vv (4294967296 + NF) 0 V F' W G) (fun j s => ∃ F' : Nat → Nat → Int32, s = (V, F', W, G) ∧ (∀ q, q ≠ 16 → q ≠ 17 → q ≠ 18 → F' q = F0 q) ∧ (∀ i, ¬ i < n → F' 16 i = F0 16 i) ∧ (∀ i, ¬ i < n → F' 17 i = F0 17 i) ∧ (∀ i, ¬ i < n → F' 18 i = F0 18 i) ∧ (∀ k, k < j → F' 16 k = F0 9 k ∧ F' 17 k = F0 10 k ∧ F' 18 k = F0 11 k)) n ?_ ?_ n 0 (4294967296 + NF) (V, F0, W, G) (by omega) (by omega) ⟨F0, rfl, fun q _ _ _ => rfl, fun i _ => rfl, fun i _ => rfl, fun i _ => rfl, fun k hk => absurd hk (Nat.not_lt_zero _)⟩
  · intro fu j s hj hs
    obtain ⟨y, rfl, hF, hO16, hO17, hO18, hK⟩ := hs
    refine Or.inl ⟨(V, (upd2 (upd2 (upd2 y 16 (upd (y 16) j (y 9 j))) 17 (upd (y 17) j (y 10 j))) 18 (upd (y 18) j (y 11 j))), W, G), ⟨_, rfl, ?_, ?_, ?_, ?_, ?_⟩, ?_⟩
    · intro q h16 h17 h18
      exact (u2n h18).trans ((u2n h17).trans ((u2n h16).trans (hF q h16 h17 h18)))
    · intro i z0
      show (upd (y 16) j (y 9 j)) i = _
      rw [pk_un (by omega)]
      exact hO16 i z0
    · intro i z0
      show (upd (y 17) j (y 10 j)) i = _
      rw [pk_un (by omega)]
      exact hO17 i z0
    · intro i z0
      show (upd (y 18) j (y 11 j)) i = _
      rw [pk_un (by omega)]
      exact hO18 i z0
    · intro k hk
      show (upd (y 16) j (y 9 j)) k = F0 9 k ∧ (upd (y 17) j (y 10 j)) k = F0 10 k ∧ (upd (y 18) j (y 11 j)) k = F0 11 k
      by_cases e : k = j
      · subst e
        exact ⟨by rw [pk_us]; exact congrFun (hF 9 (by decide) (by decide) (by decide)) _, by rw [pk_us]; exact congrFun (hF 10 (by decide) (by decide) (by decide)) _, by rw [pk_us]; exact congrFun (hF 11 (by decide) (by decide) (by decide)) _⟩
      · obtain ⟨q0, q1, q2⟩ := hK k (by omega)
        exact ⟨by rw [pk_un (by omega)]; exact q0, by rw [pk_un (by omega)]; exact q1, by rw [pk_un (by omega)]; exact q2⟩
    · show gsY_X11_regiment_1_L12 NF vv (fu + 1) (nI j) V y W G = gsY_X11_regiment_1_L12 NF vv fu (nI (j + 1)) V (upd2 (upd2 (upd2 y 16 (upd (y 16) j (y 9 j))) 17 (upd (y 17) j (y 10 j))) 18 (upd (y 18) j (y 11 j))) W G
      simp only [gsY_X11_regiment_1_L12]
      rw [hn, if_neg (show ¬ nI n ≤ nI j from nI_ge hj (by omega)), nI_1, nI_clamp (show j < 2 ^ 31 by omega)]
      all_goals first | rfl | (simp only [upd2_2]; done) | (simp only [upd2_2]; rfl)
  · intro fu s hs
    obtain ⟨y, rfl, hF, hO16, hO17, hO18, hK⟩ := hs
    refine ⟨y, hF, hO16, hO17, hO18, hK, ?_⟩
    show gsY_X11_regiment_1_L12 NF vv (fu + 1) (nI n) V y W G = _
    simp only [gsY_X11_regiment_1_L12]
    rw [hn, if_pos (show nI n ≤ nI n from nI_le (Nat.le_refl _) (by omega))]
    all_goals rfl
theorem yRegCa {vv : Nat → Int32} {V : Nat → Int32} {F0 : Nat → Nat → Int32} {W : Int64} {G : Nat → Int64} {n : Nat} (hn : vv 18 = nI n) (hb : n ≤ 6) : ∃ F' : Nat → Nat → Int32, (∀ q, q ≠ 19 → q ≠ 20 → q ≠ 21 → q ≠ 22 → F' q = F0 q) ∧ (∀ i, ¬ i < n → F' 19 i = F0 19 i) ∧ (∀ i, ¬ i < n → F' 20 i = F0 20 i) ∧ (∀ i, ¬ i < n → F' 21 i = F0 21 i) ∧ (∀ i, ¬ i < n → F' 22 i = F0 22 i) ∧ (∀ k, k < n → F' 19 k = F0 12 k ∧ F' 20 k = F0 13 k ∧ F' 21 k = F0 14 k ∧ F' 22 k = F0 15 k) ∧ gsY_X11_regiment_1_L16 NF vv (4294967296 + NF) 0 V F0 W G = (match gsY_X11_begin_1 NF V F' W G with | (v21, f22, w23, g24) => (match gsY_X11_keepAir_1 NF v21 (upd2 f22 24 (upd (f22 24) (38 : Int32).toNatClampNeg (v21 23))) w23 g24 with | (v27, f28, w29, g30) => gsY_X11_regiment_1_L31 NF vv (4294967296 + NF) 0 (upd (upd (upd (upd v27 35 0) 36 0) 38 0) 37 0) f28 w29 g30)) := by
  refine lpQ (S := SY) (fun fu i s => gsY_X11_regiment_1_L16 NF vv fu i s.1 s.2.1 s.2.2.1 s.2.2.2) (fun r => ∃ F' : Nat → Nat → Int32, (∀ q, q ≠ 19 → q ≠ 20 → q ≠ 21 → q ≠ 22 → F' q = F0 q) ∧ (∀ i, ¬ i < n → F' 19 i = F0 19 i) ∧ (∀ i, ¬ i < n → F' 20 i = F0 20 i) ∧ (∀ i, ¬ i < n → F' 21 i = F0 21 i) ∧ (∀ i, ¬ i < n → F' 22 i = F0 22 i) ∧ (∀ k, k < n → F' 19 k = F0 12 k ∧ F' 20 k = F0 13 k ∧ F' 21 k = F0 14 k ∧ F' 22 k = F0 15 k) ∧ r = (match gsY_X11_begin_1 NF V F' W G with | (v21, f22, w23, g24) => (match gsY_X11_keepAir_1 NF v21 (upd2 f22 24 (upd (f22 24) (38 : Int32).toNatClampNeg (v21 23))) w23 g24 with | (v27, f28, w29, g30) => gsY_X11_regiment_1_L31 NF vv (4294967296 + NF) 0 (upd (upd (upd (upd v27 35 0) 36 0) 38 0) 37 0) f28 w29 g30))) (fun j s => ∃ F' : Nat → Nat → Int32, s = (V, F', W, G) ∧ (∀ q, q ≠ 19 → q ≠ 20 → q ≠ 21 → q ≠ 22 → F' q = F0 q) ∧ (∀ i, ¬ i < n → F' 19 i = F0 19 i) ∧ (∀ i, ¬ i < n → F' 20 i = F0 20 i) ∧ (∀ i, ¬ i < n → F' 21 i = F0 21 i) ∧ (∀ i, ¬ i < n → F' 22 i = F0 22 i) ∧ (∀ k, k < j → F' 19 k = F0 12 k ∧ F' 20 k = F0 13 k ∧ F' 21 k = F0 14 k ∧ F' 22 k = F0 15 k)) n ?_ ?_ n 0 (4294967296 + NF) (V, F0, W, G) (by omega) (by omega) ⟨F0, rfl, fun q _ _ _ _ => rfl, fun i _ => rfl, fun i _ => rfl, fun i _ => rfl, fun i _ => rfl, fun k hk => absurd hk (Nat.not_lt_zero _)⟩
  · intro fu j s hj hs
    obtain ⟨y, rfl, hF, hO19, hO20, hO21, hO22, hK⟩ := hs
    refine Or.inl ⟨(V, (upd2 (upd2 (upd2 (upd2 y 19 (upd (y 19) j (y 12 j))) 20 (upd (y 20) j (y 13 j))) 21 (upd (y 21) j (y 14 j))) 22 (upd (y 22) j (y 15 j))), W, G), ⟨_, rfl, ?_, ?_, ?_, ?_, ?_, ?_⟩, ?_⟩
    · intro q h19 h20 h21 h22
      exact (u2n h22).trans ((u2n h21).trans ((u2n h20).trans ((u2n h19).trans (hF q h19 h20 h21 h22))))
    · intro i z0
      show (upd (y 19) j (y 12 j)) i = _
      rw [pk_un (by omega)]
      exact hO19 i z0
    · intro i z0
      show (upd (y 20) j (y 13 j)) i = _
      rw [pk_un (by omega)]
      exact hO20 i z0
    · intro i z0
      show (upd (y 21) j (y 14 j)) i = _
      rw [pk_un (by omega)]
      exact hO21 i z0
    · intro i z0
      show (upd (y 22) j (y 15 j)) i = _
      rw [pk_un (by omega)]
      exact hO22 i z0
    · intro k hk
      show (upd (y 19) j (y 12 j)) k = F0 12 k ∧ (upd (y 20) j (y 13 j)) k = F0 13 k ∧ (upd (y 21) j (y 14 j)) k = F0 14 k ∧ (upd (y 22) j (y 15 j)) k = F0 15 k
      by_cases e : k = j
      · subst e
        exact ⟨by rw [pk_us]; exact congrFun (hF 12 (by decide) (by decide) (by decide) (by decide)) _, by rw [pk_us]; exact congrFun (hF 13 (by decide) (by decide) (by decide) (by decide)) _, by rw [pk_us]; exact congrFun (hF 14 (by decide) (by decide) (by decide) (by decide)) _, by rw [pk_us]; exact congrFun (hF 15 (by decide) (by decide) (by decide) (by decide)) _⟩
      · obtain ⟨q0, q1, q2, q3⟩ := hK k (by omega)
        exact ⟨by rw [pk_un (by omega)]; exact q0, by rw [pk_un (by omega)]; exact q1, by rw [pk_un (by omega)]; exact q2, by rw [pk_un (by omega)]; exact q3⟩
    · show gsY_X11_regiment_1_L16 NF vv (fu + 1) (nI j) V y W G = gsY_X11_regiment_1_L16 NF vv fu (nI (j + 1)) V (upd2 (upd2 (upd2 (upd2 y 19 (upd (y 19) j (y 12 j))) 20 (upd (y 20) j (y 13 j))) 21 (upd (y 21) j (y 14 j))) 22 (upd (y 22) j (y 15 j))) W G
      simp only [gsY_X11_regiment_1_L16]
      rw [hn, if_neg (show ¬ nI n ≤ nI j from nI_ge hj (by omega)), nI_1, nI_clamp (show j < 2 ^ 31 by omega)]
      all_goals first | rfl | (simp only [upd2_2]; done) | (simp only [upd2_2]; rfl)
  · intro fu s hs
    obtain ⟨y, rfl, hF, hO19, hO20, hO21, hO22, hK⟩ := hs
    refine ⟨y, hF, hO19, hO20, hO21, hO22, hK, ?_⟩
    show gsY_X11_regiment_1_L16 NF vv (fu + 1) (nI n) V y W G = _
    simp only [gsY_X11_regiment_1_L16]
    rw [hn, if_pos (show nI n ≤ nI n from nI_le (Nat.le_refl _) (by omega))]
    all_goals rfl
theorem yRegBa {vv : Nat → Int32} {V : Nat → Int32} {F0 : Nat → Nat → Int32} {W : Int64} {G : Nat → Int64} : ∃ F' : Nat → Nat → Int32, (∀ q, q ≠ 36 → F' q = F0 q) ∧ (∀ i, ¬ i < 3 → F' 36 i = F0 36 i) ∧ (∀ k, k < 3 → F' 36 k = vp_nar .boolean 0) ∧ gsY_X11_regiment_1_L31 NF vv (4294967296 + NF) 0 V F0 W G = (vv 17, V, F', W, G) := by
  refine lpQ (S := SY) (fun fu i s => gsY_X11_regiment_1_L31 NF vv fu i s.1 s.2.1 s.2.2.1 s.2.2.2) (fun r => ∃ F' : Nat → Nat → Int32, (∀ q, q ≠ 36 → F' q = F0 q) ∧ (∀ i, ¬ i < 3 → F' 36 i = F0 36 i) ∧ (∀ k, k < 3 → F' 36 k = vp_nar .boolean 0) ∧ r = (vv 17, V, F', W, G)) (fun j s => ∃ F' : Nat → Nat → Int32, s = (V, F', W, G) ∧ (∀ q, q ≠ 36 → F' q = F0 q) ∧ (∀ i, ¬ i < 3 → F' 36 i = F0 36 i) ∧ (∀ k, k < j → F' 36 k = vp_nar .boolean 0)) 3 ?_ ?_ 3 0 (4294967296 + NF) (V, F0, W, G) (by omega) (by omega) ⟨F0, rfl, fun q _ => rfl, fun i _ => rfl, fun k hk => absurd hk (Nat.not_lt_zero _)⟩
  · intro fu j s hj hs
    obtain ⟨y, rfl, hF, hO36, hK⟩ := hs
    refine Or.inl ⟨(V, (upd2 y 36 (upd (y 36) j (vp_nar .boolean 0))), W, G), ⟨_, rfl, ?_, ?_, ?_⟩, ?_⟩
    · intro q h36
      exact (u2n h36).trans (hF q h36)
    · intro i z0
      show (upd (y 36) j (vp_nar .boolean 0)) i = _
      rw [pk_un (by omega)]
      exact hO36 i z0
    · intro k hk
      show (upd (y 36) j (vp_nar .boolean 0)) k = vp_nar .boolean 0
      by_cases e : k = j
      · subst e
        exact by rw [pk_us]
      · exact by rw [pk_un (by omega)]; exact hK k (by omega)
    · show gsY_X11_regiment_1_L31 NF vv (fu + 1) (nI j) V y W G = gsY_X11_regiment_1_L31 NF vv fu (nI (j + 1)) V (upd2 y 36 (upd (y 36) j (vp_nar .boolean 0))) W G
      simp only [gsY_X11_regiment_1_L31]
      rw [if_neg (show ¬ (3 : Int32) ≤ nI j from lit_nle (b := 3) rfl hj (by decide)), nI_1, nI_clamp (show j < 2 ^ 31 by omega)]
      all_goals first | rfl | (simp only [upd2_2]; done) | (simp only [upd2_2]; rfl)
  · intro fu s hs
    obtain ⟨y, rfl, hF, hO36, hK⟩ := hs
    refine ⟨y, hF, hO36, hK, ?_⟩
    show gsY_X11_regiment_1_L31 NF vv (fu + 1) (nI 3) V y W G = _
    simp only [gsY_X11_regiment_1_L31]
    rw [if_pos (show (3 : Int32) ≤ nI 3 from lit_le (b := 3) rfl (Nat.le_refl _) (by decide))]
    all_goals rfl
theorem yRegMb {vv : Nat → Int32} {V : Nat → Int32} {F0 : Nat → Nat → Int32} {W : Int64} {G : Nat → Int64} {n : Nat} (hn : vv 17 = nI n) (hb : n ≤ 6) : ∃ F' : Nat → Nat → Int32, (∀ q, q ≠ 16 → q ≠ 17 → q ≠ 18 → F' q = F0 q) ∧ (∀ i, ¬ i < n → F' 16 i = F0 16 i) ∧ (∀ i, ¬ i < n → F' 17 i = F0 17 i) ∧ (∀ i, ¬ i < n → F' 18 i = F0 18 i) ∧ (∀ k, k < n → F' 16 k = F0 9 k ∧ F' 17 k = F0 10 k ∧ F' 18 k = F0 11 k) ∧ gsY_X11_regiment_1_L70 NF vv (4294967296 + NF) 0 V F0 W G = gsY_X11_regiment_1_L74 NF vv (4294967296 + NF) 0 V F' W G := by
  refine lpQ (S := SY) (fun fu i s => gsY_X11_regiment_1_L70 NF vv fu i s.1 s.2.1 s.2.2.1 s.2.2.2) (fun r => ∃ F' : Nat → Nat → Int32, (∀ q, q ≠ 16 → q ≠ 17 → q ≠ 18 → F' q = F0 q) ∧ (∀ i, ¬ i < n → F' 16 i = F0 16 i) ∧ (∀ i, ¬ i < n → F' 17 i = F0 17 i) ∧ (∀ i, ¬ i < n → F' 18 i = F0 18 i) ∧ (∀ k, k < n → F' 16 k = F0 9 k ∧ F' 17 k = F0 10 k ∧ F' 18 k = F0 11 k) ∧ r = gsY_X11_regiment_1_L74 NF vv (4294967296 + NF) 0 V F' W G) (fun j s => ∃ F' : Nat → Nat → Int32, s = (V, F', W, G) ∧ (∀ q, q ≠ 16 → q ≠ 17 → q ≠ 18 → F' q = F0 q) ∧ (∀ i, ¬ i < n → F' 16 i = F0 16 i) ∧ (∀ i, ¬ i < n → F' 17 i = F0 17 i) ∧ (∀ i, ¬ i < n → F' 18 i = F0 18 i) ∧ (∀ k, k < j → F' 16 k = F0 9 k ∧ F' 17 k = F0 10 k ∧ F' 18 k = F0 11 k)) n ?_ ?_ n 0 (4294967296 + NF) (V, F0, W, G) (by omega) (by omega) ⟨F0, rfl, fun q _ _ _ => rfl, fun i _ => rfl, fun i _ => rfl, fun i _ => rfl, fun k hk => absurd hk (Nat.not_lt_zero _)⟩
  · intro fu j s hj hs
    obtain ⟨y, rfl, hF, hO16, hO17, hO18, hK⟩ := hs
    refine Or.inl ⟨(V, (upd2 (upd2 (upd2 y 16 (upd (y 16) j (y 9 j))) 17 (upd (y 17) j (y 10 j))) 18 (upd (y 18) j (y 11 j))), W, G), ⟨_, rfl, ?_, ?_, ?_, ?_, ?_⟩, ?_⟩
    · intro q h16 h17 h18
      exact (u2n h18).trans ((u2n h17).trans ((u2n h16).trans (hF q h16 h17 h18)))
    · intro i z0
      show (upd (y 16) j (y 9 j)) i = _
      rw [pk_un (by omega)]
      exact hO16 i z0
    · intro i z0
      show (upd (y 17) j (y 10 j)) i = _
      rw [pk_un (by omega)]
      exact hO17 i z0
    · intro i z0
      show (upd (y 18) j (y 11 j)) i = _
      rw [pk_un (by omega)]
      exact hO18 i z0
    · intro k hk
      show (upd (y 16) j (y 9 j)) k = F0 9 k ∧ (upd (y 17) j (y 10 j)) k = F0 10 k ∧ (upd (y 18) j (y 11 j)) k = F0 11 k
      by_cases e : k = j
      · subst e
        exact ⟨by rw [pk_us]; exact congrFun (hF 9 (by decide) (by decide) (by decide)) _, by rw [pk_us]; exact congrFun (hF 10 (by decide) (by decide) (by decide)) _, by rw [pk_us]; exact congrFun (hF 11 (by decide) (by decide) (by decide)) _⟩
      · obtain ⟨q0, q1, q2⟩ := hK k (by omega)
        exact ⟨by rw [pk_un (by omega)]; exact q0, by rw [pk_un (by omega)]; exact q1, by rw [pk_un (by omega)]; exact q2⟩
    · show gsY_X11_regiment_1_L70 NF vv (fu + 1) (nI j) V y W G = gsY_X11_regiment_1_L70 NF vv fu (nI (j + 1)) V (upd2 (upd2 (upd2 y 16 (upd (y 16) j (y 9 j))) 17 (upd (y 17) j (y 10 j))) 18 (upd (y 18) j (y 11 j))) W G
      simp only [gsY_X11_regiment_1_L70]
      rw [hn, if_neg (show ¬ nI n ≤ nI j from nI_ge hj (by omega)), nI_1, nI_clamp (show j < 2 ^ 31 by omega)]
      all_goals first | rfl | (simp only [upd2_2]; done) | (simp only [upd2_2]; rfl)
  · intro fu s hs
    obtain ⟨y, rfl, hF, hO16, hO17, hO18, hK⟩ := hs
    refine ⟨y, hF, hO16, hO17, hO18, hK, ?_⟩
    show gsY_X11_regiment_1_L70 NF vv (fu + 1) (nI n) V y W G = _
    simp only [gsY_X11_regiment_1_L70]
    rw [hn, if_pos (show nI n ≤ nI n from nI_le (Nat.le_refl _) (by omega))]
    all_goals rfl
theorem yRegCb {vv : Nat → Int32} {V : Nat → Int32} {F0 : Nat → Nat → Int32} {W : Int64} {G : Nat → Int64} {n : Nat} (hn : vv 18 = nI n) (hb : n ≤ 6) : ∃ F' : Nat → Nat → Int32, (∀ q, q ≠ 19 → q ≠ 20 → q ≠ 21 → q ≠ 22 → F' q = F0 q) ∧ (∀ i, ¬ i < n → F' 19 i = F0 19 i) ∧ (∀ i, ¬ i < n → F' 20 i = F0 20 i) ∧ (∀ i, ¬ i < n → F' 21 i = F0 21 i) ∧ (∀ i, ¬ i < n → F' 22 i = F0 22 i) ∧ (∀ k, k < n → F' 19 k = F0 12 k ∧ F' 20 k = F0 13 k ∧ F' 21 k = F0 14 k ∧ F' 22 k = F0 15 k) ∧ gsY_X11_regiment_1_L74 NF vv (4294967296 + NF) 0 V F0 W G = (match gsY_X11_begin_1 NF V F' W G with | (v21, f22, w23, g24) => (match gsY_X11_keepAir_1 NF v21 (upd2 f22 24 (upd (f22 24) (38 : Int32).toNatClampNeg (v21 23))) w23 g24 with | (v27, f28, w29, g30) => gsY_X11_regiment_1_L89 NF vv (4294967296 + NF) 0 (upd (upd (upd (upd v27 35 0) 36 0) 38 0) 37 0) f28 w29 g30)) := by
  refine lpQ (S := SY) (fun fu i s => gsY_X11_regiment_1_L74 NF vv fu i s.1 s.2.1 s.2.2.1 s.2.2.2) (fun r => ∃ F' : Nat → Nat → Int32, (∀ q, q ≠ 19 → q ≠ 20 → q ≠ 21 → q ≠ 22 → F' q = F0 q) ∧ (∀ i, ¬ i < n → F' 19 i = F0 19 i) ∧ (∀ i, ¬ i < n → F' 20 i = F0 20 i) ∧ (∀ i, ¬ i < n → F' 21 i = F0 21 i) ∧ (∀ i, ¬ i < n → F' 22 i = F0 22 i) ∧ (∀ k, k < n → F' 19 k = F0 12 k ∧ F' 20 k = F0 13 k ∧ F' 21 k = F0 14 k ∧ F' 22 k = F0 15 k) ∧ r = (match gsY_X11_begin_1 NF V F' W G with | (v21, f22, w23, g24) => (match gsY_X11_keepAir_1 NF v21 (upd2 f22 24 (upd (f22 24) (38 : Int32).toNatClampNeg (v21 23))) w23 g24 with | (v27, f28, w29, g30) => gsY_X11_regiment_1_L89 NF vv (4294967296 + NF) 0 (upd (upd (upd (upd v27 35 0) 36 0) 38 0) 37 0) f28 w29 g30))) (fun j s => ∃ F' : Nat → Nat → Int32, s = (V, F', W, G) ∧ (∀ q, q ≠ 19 → q ≠ 20 → q ≠ 21 → q ≠ 22 → F' q = F0 q) ∧ (∀ i, ¬ i < n → F' 19 i = F0 19 i) ∧ (∀ i, ¬ i < n → F' 20 i = F0 20 i) ∧ (∀ i, ¬ i < n → F' 21 i = F0 21 i) ∧ (∀ i, ¬ i < n → F' 22 i = F0 22 i) ∧ (∀ k, k < j → F' 19 k = F0 12 k ∧ F' 20 k = F0 13 k ∧ F' 21 k = F0 14 k ∧ F' 22 k = F0 15 k)) n ?_ ?_ n 0 (4294967296 + NF) (V, F0, W, G) (by omega) (by omega) ⟨F0, rfl, fun q _ _ _ _ => rfl, fun i _ => rfl, fun i _ => rfl, fun i _ => rfl, fun i _ => rfl, fun k hk => absurd hk (Nat.not_lt_zero _)⟩
  · intro fu j s hj hs
    obtain ⟨y, rfl, hF, hO19, hO20, hO21, hO22, hK⟩ := hs
    refine Or.inl ⟨(V, (upd2 (upd2 (upd2 (upd2 y 19 (upd (y 19) j (y 12 j))) 20 (upd (y 20) j (y 13 j))) 21 (upd (y 21) j (y 14 j))) 22 (upd (y 22) j (y 15 j))), W, G), ⟨_, rfl, ?_, ?_, ?_, ?_, ?_, ?_⟩, ?_⟩
    · intro q h19 h20 h21 h22
      exact (u2n h22).trans ((u2n h21).trans ((u2n h20).trans ((u2n h19).trans (hF q h19 h20 h21 h22))))
    · intro i z0
      show (upd (y 19) j (y 12 j)) i = _
      rw [pk_un (by omega)]
      exact hO19 i z0
    · intro i z0
      show (upd (y 20) j (y 13 j)) i = _
      rw [pk_un (by omega)]
      exact hO20 i z0
    · intro i z0
      show (upd (y 21) j (y 14 j)) i = _
      rw [pk_un (by omega)]
      exact hO21 i z0
    · intro i z0
      show (upd (y 22) j (y 15 j)) i = _
      rw [pk_un (by omega)]
      exact hO22 i z0
    · intro k hk
      show (upd (y 19) j (y 12 j)) k = F0 12 k ∧ (upd (y 20) j (y 13 j)) k = F0 13 k ∧ (upd (y 21) j (y 14 j)) k = F0 14 k ∧ (upd (y 22) j (y 15 j)) k = F0 15 k
      by_cases e : k = j
      · subst e
        exact ⟨by rw [pk_us]; exact congrFun (hF 12 (by decide) (by decide) (by decide) (by decide)) _, by rw [pk_us]; exact congrFun (hF 13 (by decide) (by decide) (by decide) (by decide)) _, by rw [pk_us]; exact congrFun (hF 14 (by decide) (by decide) (by decide) (by decide)) _, by rw [pk_us]; exact congrFun (hF 15 (by decide) (by decide) (by decide) (by decide)) _⟩
      · obtain ⟨q0, q1, q2, q3⟩ := hK k (by omega)
        exact ⟨by rw [pk_un (by omega)]; exact q0, by rw [pk_un (by omega)]; exact q1, by rw [pk_un (by omega)]; exact q2, by rw [pk_un (by omega)]; exact q3⟩
    · show gsY_X11_regiment_1_L74 NF vv (fu + 1) (nI j) V y W G = gsY_X11_regiment_1_L74 NF vv fu (nI (j + 1)) V (upd2 (upd2 (upd2 (upd2 y 19 (upd (y 19) j (y 12 j))) 20 (upd (y 20) j (y 13 j))) 21 (upd (y 21) j (y 14 j))) 22 (upd (y 22) j (y 15 j))) W G
      simp only [gsY_X11_regiment_1_L74]
      rw [hn, if_neg (show ¬ nI n ≤ nI j from nI_ge hj (by omega)), nI_1, nI_clamp (show j < 2 ^ 31 by omega)]
      all_goals first | rfl | (simp only [upd2_2]; done) | (simp only [upd2_2]; rfl)
  · intro fu s hs
    obtain ⟨y, rfl, hF, hO19, hO20, hO21, hO22, hK⟩ := hs
    refine ⟨y, hF, hO19, hO20, hO21, hO22, hK, ?_⟩
    show gsY_X11_regiment_1_L74 NF vv (fu + 1) (nI n) V y W G = _
    simp only [gsY_X11_regiment_1_L74]
    rw [hn, if_pos (show nI n ≤ nI n from nI_le (Nat.le_refl _) (by omega))]
    all_goals rfl
theorem yRegBb {vv : Nat → Int32} {V : Nat → Int32} {F0 : Nat → Nat → Int32} {W : Int64} {G : Nat → Int64} : ∃ F' : Nat → Nat → Int32, (∀ q, q ≠ 36 → F' q = F0 q) ∧ (∀ i, ¬ i < 3 → F' 36 i = F0 36 i) ∧ (∀ k, k < 3 → F' 36 k = vp_nar .boolean 0) ∧ gsY_X11_regiment_1_L89 NF vv (4294967296 + NF) 0 V F0 W G = (vv 17, V, F', W, G) := by
  refine lpQ (S := SY) (fun fu i s => gsY_X11_regiment_1_L89 NF vv fu i s.1 s.2.1 s.2.2.1 s.2.2.2) (fun r => ∃ F' : Nat → Nat → Int32, (∀ q, q ≠ 36 → F' q = F0 q) ∧ (∀ i, ¬ i < 3 → F' 36 i = F0 36 i) ∧ (∀ k, k < 3 → F' 36 k = vp_nar .boolean 0) ∧ r = (vv 17, V, F', W, G)) (fun j s => ∃ F' : Nat → Nat → Int32, s = (V, F', W, G) ∧ (∀ q, q ≠ 36 → F' q = F0 q) ∧ (∀ i, ¬ i < 3 → F' 36 i = F0 36 i) ∧ (∀ k, k < j → F' 36 k = vp_nar .boolean 0)) 3 ?_ ?_ 3 0 (4294967296 + NF) (V, F0, W, G) (by omega) (by omega) ⟨F0, rfl, fun q _ => rfl, fun i _ => rfl, fun k hk => absurd hk (Nat.not_lt_zero _)⟩
  · intro fu j s hj hs
    obtain ⟨y, rfl, hF, hO36, hK⟩ := hs
    refine Or.inl ⟨(V, (upd2 y 36 (upd (y 36) j (vp_nar .boolean 0))), W, G), ⟨_, rfl, ?_, ?_, ?_⟩, ?_⟩
    · intro q h36
      exact (u2n h36).trans (hF q h36)
    · intro i z0
      show (upd (y 36) j (vp_nar .boolean 0)) i = _
      rw [pk_un (by omega)]
      exact hO36 i z0
    · intro k hk
      show (upd (y 36) j (vp_nar .boolean 0)) k = vp_nar .boolean 0
      by_cases e : k = j
      · subst e
        exact by rw [pk_us]
      · exact by rw [pk_un (by omega)]; exact hK k (by omega)
    · show gsY_X11_regiment_1_L89 NF vv (fu + 1) (nI j) V y W G = gsY_X11_regiment_1_L89 NF vv fu (nI (j + 1)) V (upd2 y 36 (upd (y 36) j (vp_nar .boolean 0))) W G
      simp only [gsY_X11_regiment_1_L89]
      rw [if_neg (show ¬ (3 : Int32) ≤ nI j from lit_nle (b := 3) rfl hj (by decide)), nI_1, nI_clamp (show j < 2 ^ 31 by omega)]
      all_goals first | rfl | (simp only [upd2_2]; done) | (simp only [upd2_2]; rfl)
  · intro fu s hs
    obtain ⟨y, rfl, hF, hO36, hK⟩ := hs
    refine ⟨y, hF, hO36, hK, ?_⟩
    show gsY_X11_regiment_1_L89 NF vv (fu + 1) (nI 3) V y W G = _
    simp only [gsY_X11_regiment_1_L89]
    rw [if_pos (show (3 : Int32) ≤ nI 3 from lit_le (b := 3) rfl (Nat.le_refl _) (by decide))]
    all_goals rfl
theorem yRegF {vv : Nat → Int32} {V : Nat → Int32} {F0 : Nat → Nat → Int32} {W : Int64} {G : Nat → Int64} {n : Nat} (hn : vv 8 = nI n) (hb : n ≤ 300) : ∃ F' : Nat → Nat → Int32, (∀ q, q ≠ 4 → q ≠ 5 → F' q = F0 q) ∧ (∀ i, ¬ i < n → F' 4 i = F0 4 i) ∧ (∀ i, ¬ i < n → F' 5 i = F0 5 i) ∧ (∀ k, k < n → F' 4 k = F0 2 k ∧ F' 5 k = F0 3 k) ∧ gsY_X11_regiment_1_L66 NF vv (4294967296 + NF) 0 V F0 W G = gsY_X11_regiment_1_L70 NF vv (4294967296 + NF) 0 V F' W G := by
  refine lpQ (S := SY) (fun fu i s => gsY_X11_regiment_1_L66 NF vv fu i s.1 s.2.1 s.2.2.1 s.2.2.2) (fun r => ∃ F' : Nat → Nat → Int32, (∀ q, q ≠ 4 → q ≠ 5 → F' q = F0 q) ∧ (∀ i, ¬ i < n → F' 4 i = F0 4 i) ∧ (∀ i, ¬ i < n → F' 5 i = F0 5 i) ∧ (∀ k, k < n → F' 4 k = F0 2 k ∧ F' 5 k = F0 3 k) ∧ r = gsY_X11_regiment_1_L70 NF vv (4294967296 + NF) 0 V F' W G) (fun j s => ∃ F' : Nat → Nat → Int32, s = (V, F', W, G) ∧ (∀ q, q ≠ 4 → q ≠ 5 → F' q = F0 q) ∧ (∀ i, ¬ i < n → F' 4 i = F0 4 i) ∧ (∀ i, ¬ i < n → F' 5 i = F0 5 i) ∧ (∀ k, k < j → F' 4 k = F0 2 k ∧ F' 5 k = F0 3 k)) n ?_ ?_ n 0 (4294967296 + NF) (V, F0, W, G) (by omega) (by omega) ⟨F0, rfl, fun q _ _ => rfl, fun i _ => rfl, fun i _ => rfl, fun k hk => absurd hk (Nat.not_lt_zero _)⟩
  · intro fu j s hj hs
    obtain ⟨y, rfl, hF, hO4, hO5, hK⟩ := hs
    refine Or.inl ⟨(V, (upd2 (upd2 y 4 (upd (y 4) j (y 2 j))) 5 (upd (y 5) j (y 3 j))), W, G), ⟨_, rfl, ?_, ?_, ?_, ?_⟩, ?_⟩
    · intro q h4 h5
      exact (u2n h5).trans ((u2n h4).trans (hF q h4 h5))
    · intro i z0
      show (upd (y 4) j (y 2 j)) i = _
      rw [pk_un (by omega)]
      exact hO4 i z0
    · intro i z0
      show (upd (y 5) j (y 3 j)) i = _
      rw [pk_un (by omega)]
      exact hO5 i z0
    · intro k hk
      show (upd (y 4) j (y 2 j)) k = F0 2 k ∧ (upd (y 5) j (y 3 j)) k = F0 3 k
      by_cases e : k = j
      · subst e
        exact ⟨by rw [pk_us]; exact congrFun (hF 2 (by decide) (by decide)) _, by rw [pk_us]; exact congrFun (hF 3 (by decide) (by decide)) _⟩
      · obtain ⟨q0, q1⟩ := hK k (by omega)
        exact ⟨by rw [pk_un (by omega)]; exact q0, by rw [pk_un (by omega)]; exact q1⟩
    · show gsY_X11_regiment_1_L66 NF vv (fu + 1) (nI j) V y W G = gsY_X11_regiment_1_L66 NF vv fu (nI (j + 1)) V (upd2 (upd2 y 4 (upd (y 4) j (y 2 j))) 5 (upd (y 5) j (y 3 j))) W G
      simp only [gsY_X11_regiment_1_L66]
      rw [hn, if_neg (show ¬ nI n ≤ nI j from nI_ge hj (by omega)), nI_1, nI_clamp (show j < 2 ^ 31 by omega)]
      all_goals first | rfl | (simp only [upd2_2]; done) | (simp only [upd2_2]; rfl)
  · intro fu s hs
    obtain ⟨y, rfl, hF, hO4, hO5, hK⟩ := hs
    refine ⟨y, hF, hO4, hO5, hK, ?_⟩
    show gsY_X11_regiment_1_L66 NF vv (fu + 1) (nI n) V y W G = _
    simp only [gsY_X11_regiment_1_L66]
    rw [hn, if_pos (show nI n ≤ nI n from nI_le (Nat.le_refl _) (by omega))]
    all_goals rfl
theorem yBeg1 {vv : Nat → Int32} {V : Nat → Int32} {F0 : Nat → Nat → Int32} {W : Int64} {G : Nat → Int64} : ∃ F' : Nat → Nat → Int32, (∀ q, q ≠ 24 → F' q = F0 q) ∧ (∀ i, ¬ i < 39 → F' 24 i = F0 24 i) ∧ (∀ k, k < 39 → F' 24 k = 0) ∧ gsY_X11_begin_1_L1 NF vv (4294967296 + NF) 0 V F0 W G = gsY_X11_begin_1_L3 NF vv (4294967296 + NF) 0 V F' W G := by
  refine lpQ (S := SY) (fun fu i s => gsY_X11_begin_1_L1 NF vv fu i s.1 s.2.1 s.2.2.1 s.2.2.2) (fun r => ∃ F' : Nat → Nat → Int32, (∀ q, q ≠ 24 → F' q = F0 q) ∧ (∀ i, ¬ i < 39 → F' 24 i = F0 24 i) ∧ (∀ k, k < 39 → F' 24 k = 0) ∧ r = gsY_X11_begin_1_L3 NF vv (4294967296 + NF) 0 V F' W G) (fun j s => ∃ F' : Nat → Nat → Int32, s = (V, F', W, G) ∧ (∀ q, q ≠ 24 → F' q = F0 q) ∧ (∀ i, ¬ i < 39 → F' 24 i = F0 24 i) ∧ (∀ k, k < j → F' 24 k = 0)) 39 ?_ ?_ 39 0 (4294967296 + NF) (V, F0, W, G) (by omega) (by omega) ⟨F0, rfl, fun q _ => rfl, fun i _ => rfl, fun k hk => absurd hk (Nat.not_lt_zero _)⟩
  · intro fu j s hj hs
    obtain ⟨y, rfl, hF, hO24, hK⟩ := hs
    refine Or.inl ⟨(V, (upd2 y 24 (upd (y 24) j 0)), W, G), ⟨_, rfl, ?_, ?_, ?_⟩, ?_⟩
    · intro q h24
      exact (u2n h24).trans (hF q h24)
    · intro i z0
      show (upd (y 24) j 0) i = _
      rw [pk_un (by omega)]
      exact hO24 i z0
    · intro k hk
      show (upd (y 24) j 0) k = 0
      by_cases e : k = j
      · subst e
        exact by rw [pk_us]
      · exact by rw [pk_un (by omega)]; exact hK k (by omega)
    · show gsY_X11_begin_1_L1 NF vv (fu + 1) (nI j) V y W G = gsY_X11_begin_1_L1 NF vv fu (nI (j + 1)) V (upd2 y 24 (upd (y 24) j 0)) W G
      simp only [gsY_X11_begin_1_L1]
      rw [if_neg (show ¬ (39 : Int32) ≤ nI j from lit_nle (b := 39) rfl hj (by decide)), nI_1, nI_clamp (show j < 2 ^ 31 by omega)]
      all_goals first | rfl | (simp only [upd2_2]; done) | (simp only [upd2_2]; rfl)
  · intro fu s hs
    obtain ⟨y, rfl, hF, hO24, hK⟩ := hs
    refine ⟨y, hF, hO24, hK, ?_⟩
    show gsY_X11_begin_1_L1 NF vv (fu + 1) (nI 39) V y W G = _
    simp only [gsY_X11_begin_1_L1]
    rw [if_pos (show (39 : Int32) ≤ nI 39 from lit_le (b := 39) rfl (Nat.le_refl _) (by decide))]
    all_goals rfl
theorem yBeg3 {vv : Nat → Int32} {V : Nat → Int32} {F0 : Nat → Nat → Int32} {W : Int64} {G : Nat → Int64} {n : Nat} (hn : vv 24 = nI n) (hb : n ≤ 6) : ∃ F' : Nat → Nat → Int32, (∀ q, q ≠ 24 → F' q = F0 q) ∧ (∀ i, ¬ i < n → ¬ (6 ≤ i ∧ i < 6 + n) → F' 24 i = F0 24 i) ∧ (∀ k, k < n → F' 24 k = F0 17 k ∧ F' 24 (6 + k) = -1) ∧ gsY_X11_begin_1_L3 NF vv (4294967296 + NF) 0 V F0 W G = gsY_X11_begin_1_L7 NF vv (4294967296 + NF) 0 V F' W G := by
  refine lpQ (S := SY) (fun fu i s => gsY_X11_begin_1_L3 NF vv fu i s.1 s.2.1 s.2.2.1 s.2.2.2) (fun r => ∃ F' : Nat → Nat → Int32, (∀ q, q ≠ 24 → F' q = F0 q) ∧ (∀ i, ¬ i < n → ¬ (6 ≤ i ∧ i < 6 + n) → F' 24 i = F0 24 i) ∧ (∀ k, k < n → F' 24 k = F0 17 k ∧ F' 24 (6 + k) = -1) ∧ r = gsY_X11_begin_1_L7 NF vv (4294967296 + NF) 0 V F' W G) (fun j s => ∃ F' : Nat → Nat → Int32, s = (V, F', W, G) ∧ (∀ q, q ≠ 24 → F' q = F0 q) ∧ (∀ i, ¬ i < n → ¬ (6 ≤ i ∧ i < 6 + n) → F' 24 i = F0 24 i) ∧ (∀ k, k < j → F' 24 k = F0 17 k ∧ F' 24 (6 + k) = -1)) n ?_ ?_ n 0 (4294967296 + NF) (V, F0, W, G) (by omega) (by omega) ⟨F0, rfl, fun q _ => rfl, fun i _ _ => rfl, fun k hk => absurd hk (Nat.not_lt_zero _)⟩
  · intro fu j s hj hs
    obtain ⟨y, rfl, hF, hO24, hK⟩ := hs
    refine Or.inl ⟨(V, (upd2 y 24 (upd (upd (y 24) j (y 17 j)) (6 + j) (-1))), W, G), ⟨_, rfl, ?_, ?_, ?_⟩, ?_⟩
    · intro q h24
      exact (u2n h24).trans (hF q h24)
    · intro i z0 z1
      show (upd (upd (y 24) j (y 17 j)) (6 + j) (-1)) i = _
      rw [pk_un (by omega), pk_un (by omega)]
      exact hO24 i z0 z1
    · intro k hk
      show (upd (upd (y 24) j (y 17 j)) (6 + j) (-1)) k = F0 17 k ∧ (upd (upd (y 24) j (y 17 j)) (6 + j) (-1)) (6 + k) = -1
      by_cases e : k = j
      · subst e
        exact ⟨by rw [pk_un (by omega), pk_us]; exact congrFun (hF 17 (by decide)) _, by rw [pk_us]⟩
      · obtain ⟨q0, q1⟩ := hK k (by omega)
        exact ⟨by rw [pk_un (by omega), pk_un (by omega)]; exact q0, by rw [pk_un (by omega), pk_un (by omega)]; exact q1⟩
    · show gsY_X11_begin_1_L3 NF vv (fu + 1) (nI j) V y W G = gsY_X11_begin_1_L3 NF vv fu (nI (j + 1)) V (upd2 y 24 (upd (upd (y 24) j (y 17 j)) (6 + j) (-1))) W G
      simp only [gsY_X11_begin_1_L3]
      rw [hn, if_neg (show ¬ nI n ≤ nI j from nI_ge hj (by omega)), nI_1, show (6 : Int32) + nI j = nI (6 + j) from nI_add 6 j, nI_clamp (show j < 2 ^ 31 by omega), nI_clamp (show 6 + j < 2 ^ 31 by omega)]
      all_goals first | rfl | (simp only [upd2_2]; done) | (simp only [upd2_2]; rfl)
  · intro fu s hs
    obtain ⟨y, rfl, hF, hO24, hK⟩ := hs
    refine ⟨y, hF, hO24, hK, ?_⟩
    show gsY_X11_begin_1_L3 NF vv (fu + 1) (nI n) V y W G = _
    simp only [gsY_X11_begin_1_L3]
    rw [hn, if_pos (show nI n ≤ nI n from nI_le (Nat.le_refl _) (by omega))]
    all_goals rfl
theorem yBeg7 {vv : Nat → Int32} {V : Nat → Int32} {F0 : Nat → Nat → Int32} {W : Int64} {G : Nat → Int64} {n : Nat} (hn : vv 25 = nI n) (hb : n ≤ 6) : ∃ F' : Nat → Nat → Int32, (∀ q, q ≠ 24 → F' q = F0 q) ∧ (∀ i, ¬ (12 ≤ i ∧ i < 12 + n) → ¬ (18 ≤ i ∧ i < 18 + n) → ¬ (24 ≤ i ∧ i < 24 + n) → ¬ (30 ≤ i ∧ i < 30 + n) → F' 24 i = F0 24 i) ∧ (∀ k, k < n → F' 24 (12 + k) = F0 19 k ∧ F' 24 (18 + k) = F0 20 k ∧ F' 24 (24 + k) = F0 21 k ∧ F' 24 (30 + k) = F0 22 k) ∧ gsY_X11_begin_1_L7 NF vv (4294967296 + NF) 0 V F0 W G = (V, F', W, G) := by
  refine lpQ (S := SY) (fun fu i s => gsY_X11_begin_1_L7 NF vv fu i s.1 s.2.1 s.2.2.1 s.2.2.2) (fun r => ∃ F' : Nat → Nat → Int32, (∀ q, q ≠ 24 → F' q = F0 q) ∧ (∀ i, ¬ (12 ≤ i ∧ i < 12 + n) → ¬ (18 ≤ i ∧ i < 18 + n) → ¬ (24 ≤ i ∧ i < 24 + n) → ¬ (30 ≤ i ∧ i < 30 + n) → F' 24 i = F0 24 i) ∧ (∀ k, k < n → F' 24 (12 + k) = F0 19 k ∧ F' 24 (18 + k) = F0 20 k ∧ F' 24 (24 + k) = F0 21 k ∧ F' 24 (30 + k) = F0 22 k) ∧ r = (V, F', W, G)) (fun j s => ∃ F' : Nat → Nat → Int32, s = (V, F', W, G) ∧ (∀ q, q ≠ 24 → F' q = F0 q) ∧ (∀ i, ¬ (12 ≤ i ∧ i < 12 + n) → ¬ (18 ≤ i ∧ i < 18 + n) → ¬ (24 ≤ i ∧ i < 24 + n) → ¬ (30 ≤ i ∧ i < 30 + n) → F' 24 i = F0 24 i) ∧ (∀ k, k < j → F' 24 (12 + k) = F0 19 k ∧ F' 24 (18 + k) = F0 20 k ∧ F' 24 (24 + k) = F0 21 k ∧ F' 24 (30 + k) = F0 22 k)) n ?_ ?_ n 0 (4294967296 + NF) (V, F0, W, G) (by omega) (by omega) ⟨F0, rfl, fun q _ => rfl, fun i _ _ _ _ => rfl, fun k hk => absurd hk (Nat.not_lt_zero _)⟩
  · intro fu j s hj hs
    obtain ⟨y, rfl, hF, hO24, hK⟩ := hs
    refine Or.inl ⟨(V, (upd2 y 24 (upd (upd (upd (upd (y 24) (12 + j) (y 19 j)) (18 + j) (y 20 j)) (24 + j) (y 21 j)) (30 + j) (y 22 j))), W, G), ⟨_, rfl, ?_, ?_, ?_⟩, ?_⟩
    · intro q h24
      exact (u2n h24).trans (hF q h24)
    · intro i z0 z1 z2 z3
      show (upd (upd (upd (upd (y 24) (12 + j) (y 19 j)) (18 + j) (y 20 j)) (24 + j) (y 21 j)) (30 + j) (y 22 j)) i = _
      rw [pk_un (by omega), pk_un (by omega), pk_un (by omega), pk_un (by omega)]
      exact hO24 i z0 z1 z2 z3
    · intro k hk
      show (upd (upd (upd (upd (y 24) (12 + j) (y 19 j)) (18 + j) (y 20 j)) (24 + j) (y 21 j)) (30 + j) (y 22 j)) (12 + k) = F0 19 k ∧ (upd (upd (upd (upd (y 24) (12 + j) (y 19 j)) (18 + j) (y 20 j)) (24 + j) (y 21 j)) (30 + j) (y 22 j)) (18 + k) = F0 20 k ∧ (upd (upd (upd (upd (y 24) (12 + j) (y 19 j)) (18 + j) (y 20 j)) (24 + j) (y 21 j)) (30 + j) (y 22 j)) (24 + k) = F0 21 k ∧ (upd (upd (upd (upd (y 24) (12 + j) (y 19 j)) (18 + j) (y 20 j)) (24 + j) (y 21 j)) (30 + j) (y 22 j)) (30 + k) = F0 22 k
      by_cases e : k = j
      · subst e
        exact ⟨by rw [pk_un (by omega), pk_un (by omega), pk_un (by omega), pk_us]; exact congrFun (hF 19 (by decide)) _, by rw [pk_un (by omega), pk_un (by omega), pk_us]; exact congrFun (hF 20 (by decide)) _, by rw [pk_un (by omega), pk_us]; exact congrFun (hF 21 (by decide)) _, by rw [pk_us]; exact congrFun (hF 22 (by decide)) _⟩
      · obtain ⟨q0, q1, q2, q3⟩ := hK k (by omega)
        exact ⟨by rw [pk_un (by omega), pk_un (by omega), pk_un (by omega), pk_un (by omega)]; exact q0, by rw [pk_un (by omega), pk_un (by omega), pk_un (by omega), pk_un (by omega)]; exact q1, by rw [pk_un (by omega), pk_un (by omega), pk_un (by omega), pk_un (by omega)]; exact q2, by rw [pk_un (by omega), pk_un (by omega), pk_un (by omega), pk_un (by omega)]; exact q3⟩
    · show gsY_X11_begin_1_L7 NF vv (fu + 1) (nI j) V y W G = gsY_X11_begin_1_L7 NF vv fu (nI (j + 1)) V (upd2 y 24 (upd (upd (upd (upd (y 24) (12 + j) (y 19 j)) (18 + j) (y 20 j)) (24 + j) (y 21 j)) (30 + j) (y 22 j))) W G
      simp only [gsY_X11_begin_1_L7]
      rw [hn, if_neg (show ¬ nI n ≤ nI j from nI_ge hj (by omega)), nI_1, show (12 : Int32) + nI j = nI (12 + j) from nI_add 12 j, show (18 : Int32) + nI j = nI (18 + j) from nI_add 18 j, show (24 : Int32) + nI j = nI (24 + j) from nI_add 24 j, show (30 : Int32) + nI j = nI (30 + j) from nI_add 30 j, nI_clamp (show j < 2 ^ 31 by omega), nI_clamp (show 12 + j < 2 ^ 31 by omega), nI_clamp (show 18 + j < 2 ^ 31 by omega), nI_clamp (show 24 + j < 2 ^ 31 by omega), nI_clamp (show 30 + j < 2 ^ 31 by omega)]
      all_goals first | rfl | (simp only [upd2_2]; done) | (simp only [upd2_2]; rfl)
  · intro fu s hs
    obtain ⟨y, rfl, hF, hO24, hK⟩ := hs
    refine ⟨y, hF, hO24, hK, ?_⟩
    show gsY_X11_begin_1_L7 NF vv (fu + 1) (nI n) V y W G = _
    simp only [gsY_X11_begin_1_L7]
    rw [hn, if_pos (show nI n ≤ nI n from nI_le (Nat.le_refl _) (by omega))]
    all_goals rfl
theorem yKeep1 {V : Nat → Int32} {F0 : Nat → Nat → Int32} {W : Int64} {G : Nat → Int64} : ∃ F' : Nat → Nat → Int32, (∀ q, q ≠ 23 → F' q = F0 q) ∧ (∀ i, ¬ i < 39 → F' 23 i = F0 23 i) ∧ (∀ k, k < 39 → F' 23 k = F0 24 k) ∧ gsY_X11_keepAir_1_L1 NF (4294967296 + NF) 0 V F0 W G = (V, F', W, G) := by
  refine lpQ (S := SY) (fun fu i s => gsY_X11_keepAir_1_L1 NF fu i s.1 s.2.1 s.2.2.1 s.2.2.2) (fun r => ∃ F' : Nat → Nat → Int32, (∀ q, q ≠ 23 → F' q = F0 q) ∧ (∀ i, ¬ i < 39 → F' 23 i = F0 23 i) ∧ (∀ k, k < 39 → F' 23 k = F0 24 k) ∧ r = (V, F', W, G)) (fun j s => ∃ F' : Nat → Nat → Int32, s = (V, F', W, G) ∧ (∀ q, q ≠ 23 → F' q = F0 q) ∧ (∀ i, ¬ i < 39 → F' 23 i = F0 23 i) ∧ (∀ k, k < j → F' 23 k = F0 24 k)) 39 ?_ ?_ 39 0 (4294967296 + NF) (V, F0, W, G) (by omega) (by omega) ⟨F0, rfl, fun q _ => rfl, fun i _ => rfl, fun k hk => absurd hk (Nat.not_lt_zero _)⟩
  · intro fu j s hj hs
    obtain ⟨y, rfl, hF, hO23, hK⟩ := hs
    refine Or.inl ⟨(V, (upd2 y 23 (upd (y 23) j (y 24 j))), W, G), ⟨_, rfl, ?_, ?_, ?_⟩, ?_⟩
    · intro q h23
      exact (u2n h23).trans (hF q h23)
    · intro i z0
      show (upd (y 23) j (y 24 j)) i = _
      rw [pk_un (by omega)]
      exact hO23 i z0
    · intro k hk
      show (upd (y 23) j (y 24 j)) k = F0 24 k
      by_cases e : k = j
      · subst e
        exact by rw [pk_us]; exact congrFun (hF 24 (by decide)) _
      · exact by rw [pk_un (by omega)]; exact hK k (by omega)
    · show gsY_X11_keepAir_1_L1 NF (fu + 1) (nI j) V y W G = gsY_X11_keepAir_1_L1 NF fu (nI (j + 1)) V (upd2 y 23 (upd (y 23) j (y 24 j))) W G
      simp only [gsY_X11_keepAir_1_L1]
      rw [if_neg (show ¬ (39 : Int32) ≤ nI j from lit_nle (b := 39) rfl hj (by decide)), nI_1, nI_clamp (show j < 2 ^ 31 by omega)]
      all_goals first | rfl | (simp only [upd2_2]; done) | (simp only [upd2_2]; rfl)
  · intro fu s hs
    obtain ⟨y, rfl, hF, hO23, hK⟩ := hs
    refine ⟨y, hF, hO23, hK, ?_⟩
    show gsY_X11_keepAir_1_L1 NF (fu + 1) (nI 39) V y W G = _
    simp only [gsY_X11_keepAir_1_L1]
    rw [if_pos (show (39 : Int32) ≤ nI 39 from lit_le (b := 39) rfl (Nat.le_refl _) (by decide))]
    all_goals rfl
theorem xFill27 {V : Nat → Int32} {F0 : Nat → Nat → Int32} {pp : Int32} : ∃ F' : Nat → Nat → Int32, (∀ q, q ≠ 27 → F' q = F0 q) ∧ (∀ i, ¬ i < 21 → F' 27 i = F0 27 i) ∧ (∀ k, k < 21 → F' 27 k = pp) ∧ gsX_J7_fill_53178_1_L1 NF pp (4294967296 + NF) 0 V F0 = (V, F') := by
  refine lpQ (S := SX) (fun fu i s => gsX_J7_fill_53178_1_L1 NF pp fu i s.1 s.2) (fun r => ∃ F' : Nat → Nat → Int32, (∀ q, q ≠ 27 → F' q = F0 q) ∧ (∀ i, ¬ i < 21 → F' 27 i = F0 27 i) ∧ (∀ k, k < 21 → F' 27 k = pp) ∧ r = (V, F')) (fun j s => ∃ F' : Nat → Nat → Int32, s = (V, F') ∧ (∀ q, q ≠ 27 → F' q = F0 q) ∧ (∀ i, ¬ i < 21 → F' 27 i = F0 27 i) ∧ (∀ k, k < j → F' 27 k = pp)) 21 ?_ ?_ 21 0 (4294967296 + NF) (V, F0) (by omega) (by omega) ⟨F0, rfl, fun q _ => rfl, fun i _ => rfl, fun k hk => absurd hk (Nat.not_lt_zero _)⟩
  · intro fu j s hj hs
    obtain ⟨y, rfl, hF, hO27, hK⟩ := hs
    refine Or.inl ⟨(V, (upd2 y 27 (upd (y 27) j pp))), ⟨_, rfl, ?_, ?_, ?_⟩, ?_⟩
    · intro q h27
      exact (u2n h27).trans (hF q h27)
    · intro i z0
      show (upd (y 27) j pp) i = _
      rw [pk_un (by omega)]
      exact hO27 i z0
    · intro k hk
      show (upd (y 27) j pp) k = pp
      by_cases e : k = j
      · subst e
        exact by rw [pk_us]
      · exact by rw [pk_un (by omega)]; exact hK k (by omega)
    · show gsX_J7_fill_53178_1_L1 NF pp (fu + 1) (nI j) V y = gsX_J7_fill_53178_1_L1 NF pp fu (nI (j + 1)) V (upd2 y 27 (upd (y 27) j pp))
      simp only [gsX_J7_fill_53178_1_L1]
      rw [if_neg (show ¬ (21 : Int32) ≤ nI j from lit_nle (b := 21) rfl hj (by decide)), nI_1, nI_clamp (show j < 2 ^ 31 by omega)]
      all_goals first | rfl | (simp only [upd2_2]; done) | (simp only [upd2_2]; rfl)
  · intro fu s hs
    obtain ⟨y, rfl, hF, hO27, hK⟩ := hs
    refine ⟨y, hF, hO27, hK, ?_⟩
    show gsX_J7_fill_53178_1_L1 NF pp (fu + 1) (nI 21) V y = _
    simp only [gsX_J7_fill_53178_1_L1]
    rw [if_pos (show (21 : Int32) ≤ nI 21 from lit_le (b := 21) rfl (Nat.le_refl _) (by decide))]
    all_goals rfl
theorem xMus1 {V : Nat → Int32} {F0 : Nat → Nat → Int32} : ∃ F' : Nat → Nat → Int32, (∀ q, q ≠ 15 → F' q = F0 q) ∧ (∀ i, ¬ i < 6 → ¬ (6 ≤ i ∧ i < 6 + 6) → F' 15 i = F0 15 i) ∧ (∀ k, k < 6 → F' 15 k = gsX_X7_manPart_1 NF 1 (nI k) V F0 ∧ F' 15 (6 + k) = -1) ∧ gsX_X1_muster_1_L1 NF (4294967296 + NF) 0 V F0 = gsX_X1_muster_1_L3 NF (4294967296 + NF) 0 V F' := by
  refine lpQ (S := SX) (fun fu i s => gsX_X1_muster_1_L1 NF fu i s.1 s.2) (fun r => ∃ F' : Nat → Nat → Int32, (∀ q, q ≠ 15 → F' q = F0 q) ∧ (∀ i, ¬ i < 6 → ¬ (6 ≤ i ∧ i < 6 + 6) → F' 15 i = F0 15 i) ∧ (∀ k, k < 6 → F' 15 k = gsX_X7_manPart_1 NF 1 (nI k) V F0 ∧ F' 15 (6 + k) = -1) ∧ r = gsX_X1_muster_1_L3 NF (4294967296 + NF) 0 V F') (fun j s => ∃ F' : Nat → Nat → Int32, s = (V, F') ∧ (∀ q, q ≠ 15 → F' q = F0 q) ∧ (∀ i, ¬ i < 6 → ¬ (6 ≤ i ∧ i < 6 + 6) → F' 15 i = F0 15 i) ∧ (∀ k, k < j → F' 15 k = gsX_X7_manPart_1 NF 1 (nI k) V F0 ∧ F' 15 (6 + k) = -1)) 6 ?_ ?_ 6 0 (4294967296 + NF) (V, F0) (by omega) (by omega) ⟨F0, rfl, fun q _ => rfl, fun i _ _ => rfl, fun k hk => absurd hk (Nat.not_lt_zero _)⟩
  · intro fu j s hj hs
    obtain ⟨y, rfl, hF, hO15, hK⟩ := hs
    refine Or.inl ⟨(V, (upd2 y 15 (upd (upd (y 15) j (gsX_X7_manPart_1 NF 1 (nI j) V y)) (6 + j) (-1)))), ⟨_, rfl, ?_, ?_, ?_⟩, ?_⟩
    · intro q h15
      exact (u2n h15).trans (hF q h15)
    · intro i z0 z1
      show (upd (upd (y 15) j (gsX_X7_manPart_1 NF 1 (nI j) V y)) (6 + j) (-1)) i = _
      rw [pk_un (by omega), pk_un (by omega)]
      exact hO15 i z0 z1
    · intro k hk
      show (upd (upd (y 15) j (gsX_X7_manPart_1 NF 1 (nI j) V y)) (6 + j) (-1)) k = gsX_X7_manPart_1 NF 1 (nI k) V F0 ∧ (upd (upd (y 15) j (gsX_X7_manPart_1 NF 1 (nI j) V y)) (6 + j) (-1)) (6 + k) = -1
      by_cases e : k = j
      · subst e
        exact ⟨by rw [pk_un (by omega), pk_us]; exact (by simp only [gsX_X7_manPart_1, gsX_X7_hasMan_1, hF 9 (by decide)]), by rw [pk_us]⟩
      · obtain ⟨q0, q1⟩ := hK k (by omega)
        exact ⟨by rw [pk_un (by omega), pk_un (by omega)]; exact q0, by rw [pk_un (by omega), pk_un (by omega)]; exact q1⟩
    · show gsX_X1_muster_1_L1 NF (fu + 1) (nI j) V y = gsX_X1_muster_1_L1 NF fu (nI (j + 1)) V (upd2 y 15 (upd (upd (y 15) j (gsX_X7_manPart_1 NF 1 (nI j) V y)) (6 + j) (-1)))
      simp only [gsX_X1_muster_1_L1]
      rw [if_neg (show ¬ (6 : Int32) ≤ nI j from lit_nle (b := 6) rfl hj (by decide)), nI_1, show (6 : Int32) + nI j = nI (6 + j) from nI_add 6 j, nI_clamp (show j < 2 ^ 31 by omega), nI_clamp (show 6 + j < 2 ^ 31 by omega)]
      all_goals first | rfl | (simp only [upd2_2]; done) | (simp only [upd2_2]; rfl)
  · intro fu s hs
    obtain ⟨y, rfl, hF, hO15, hK⟩ := hs
    refine ⟨y, hF, hO15, hK, ?_⟩
    show gsX_X1_muster_1_L1 NF (fu + 1) (nI 6) V y = _
    simp only [gsX_X1_muster_1_L1]
    rw [if_pos (show (6 : Int32) ≤ nI 6 from lit_le (b := 6) rfl (Nat.le_refl _) (by decide))]
    all_goals rfl
theorem xCP {V : Nat → Int32} {F0 y : Nat → Nat → Int32} (h : y 10 = F0 10) (p q : Int32) : gsX_X7_coatPart_1 NF p q V y = gsX_X7_coatPart_1 NF p q V F0 := by
  simp only [gsX_X7_coatPart_1, gsX_X7_hasCoat_1, h]
theorem xMus7 {V : Nat → Int32} {F0 : Nat → Nat → Int32} {c : Nat} (hc : c < 6) {k3 : Int32 → (Nat → Int32) → (Nat → Nat → Int32) → ((Nat → Int32) × (Nat → Nat → Int32))} : ∃ F' : Nat → Nat → Int32, (∀ q, q ≠ 15 → F' q = F0 q) ∧ (∀ i, (∀ p, p < 5 → i ≠ 12 + p * 6 + c) → F' 15 i = F0 15 i) ∧ (∀ p, p < 5 → F' 15 (12 + p * 6 + c) = gsX_X7_coatPart_1 NF (nI p) (nI c) V F0) ∧ gsX_X1_muster_1_L7 NF (nI c) k3 (4294967296 + NF) 0 V F0 = k3 (nI (c + 1)) V F' := by
  refine lpQ (S := SX) (fun fu i s => gsX_X1_muster_1_L7 NF (nI c) k3 fu i s.1 s.2) (fun r => ∃ F' : Nat → Nat → Int32, (∀ q, q ≠ 15 → F' q = F0 q) ∧ (∀ i, (∀ p, p < 5 → i ≠ 12 + p * 6 + c) → F' 15 i = F0 15 i) ∧ (∀ p, p < 5 → F' 15 (12 + p * 6 + c) = gsX_X7_coatPart_1 NF (nI p) (nI c) V F0) ∧ r = k3 (nI (c + 1)) V F') (fun j s => ∃ F' : Nat → Nat → Int32, s = (V, F') ∧ (∀ q, q ≠ 15 → F' q = F0 q) ∧ (∀ i, (∀ p, p < 5 → i ≠ 12 + p * 6 + c) → F' 15 i = F0 15 i) ∧ (∀ p, p < j → F' 15 (12 + p * 6 + c) = gsX_X7_coatPart_1 NF (nI p) (nI c) V F0)) 5 ?_ ?_ 5 0 (4294967296 + NF) (V, F0) (by omega) (by omega) ⟨F0, rfl, fun q _ => rfl, fun i _ => rfl, fun k hk => absurd hk (Nat.not_lt_zero _)⟩
  · intro fu j s hj hs
    obtain ⟨y, rfl, hF, hO, hK⟩ := hs
    refine Or.inl ⟨(V, upd2 y 15 (upd (y 15) (12 + j * 6 + c) (gsX_X7_coatPart_1 NF (nI j) (nI c) V y))), ⟨_, rfl, ?_, ?_, ?_⟩, ?_⟩
    · intro q hq
      exact (u2n hq).trans (hF q hq)
    · intro i hi
      show (upd (y 15) (12 + j * 6 + c) (gsX_X7_coatPart_1 NF (nI j) (nI c) V y)) i = _
      rw [pk_un (hi j hj)]
      exact hO i hi
    · intro p hp
      show (upd (y 15) (12 + j * 6 + c) (gsX_X7_coatPart_1 NF (nI j) (nI c) V y)) (12 + p * 6 + c) = _
      by_cases e : p = j
      · rw [e, pk_us]
        exact xCP (hF 10 (by decide)) _ _
      · rw [pk_un (by omega)]
        exact hK p (by omega)
    · show gsX_X1_muster_1_L7 NF (nI c) k3 (fu + 1) (nI j) V y = gsX_X1_muster_1_L7 NF (nI c) k3 fu (nI (j + 1)) V _
      simp only [gsX_X1_muster_1_L7]
      rw [if_neg (show ¬ (5 : Int32) ≤ nI j from lit_nle (b := 5) rfl hj (by decide)), nI_1, show nI j * 6 = nI (j * 6) from nI_mulI j 6, show (12 : Int32) + nI (j * 6) = nI (12 + j * 6) from nI_add 12 (j * 6), nI_add, nI_clamp (show 12 + j * 6 + c < 2 ^ 31 by omega)]
      all_goals rfl
  · intro fu s hs
    obtain ⟨y, rfl, hF, hO, hK⟩ := hs
    refine ⟨y, hF, hO, hK, ?_⟩
    show gsX_X1_muster_1_L7 NF (nI c) k3 (fu + 1) (nI 5) V y = _
    simp only [gsX_X1_muster_1_L7]
    rw [if_pos (show (5 : Int32) ≤ nI 5 from lit_le (b := 5) rfl (Nat.le_refl _) (by decide)), nI_1]
theorem xMus3 {V : Nat → Int32} {F0 : Nat → Nat → Int32} : ∃ F' : Nat → Nat → Int32, (∀ q, q ≠ 15 → F' q = F0 q) ∧ (∀ i, i < 12 → F' 15 i = F0 15 i) ∧ (∀ c, c < 6 → ∀ p, p < 5 → F' 15 (12 + p * 6 + c) = gsX_X7_coatPart_1 NF (nI p) (nI c) V F0) ∧ F' 15 42 = 0 ∧ F' 15 43 = V 37 ∧ gsX_X1_muster_1_L3 NF (4294967296 + NF) 0 V F0 = (V, F') := by
  refine lpQ (S := SX) (fun fu i s => gsX_X1_muster_1_L3 NF fu i s.1 s.2) (fun r => ∃ F' : Nat → Nat → Int32, (∀ q, q ≠ 15 → F' q = F0 q) ∧ (∀ i, i < 12 → F' 15 i = F0 15 i) ∧ (∀ c, c < 6 → ∀ p, p < 5 → F' 15 (12 + p * 6 + c) = gsX_X7_coatPart_1 NF (nI p) (nI c) V F0) ∧ F' 15 42 = 0 ∧ F' 15 43 = V 37 ∧ r = (V, F')) (fun j s => ∃ F' : Nat → Nat → Int32, s = (V, F') ∧ (∀ q, q ≠ 15 → F' q = F0 q) ∧ (∀ i, i < 12 → F' 15 i = F0 15 i) ∧ (∀ c, c < j → ∀ p, p < 5 → F' 15 (12 + p * 6 + c) = gsX_X7_coatPart_1 NF (nI p) (nI c) V F0)) 6 ?_ ?_ 6 0 (4294967296 + NF) (V, F0) (by omega) (by omega) ⟨F0, rfl, fun q _ => rfl, fun i _ => rfl, fun k hk => absurd hk (Nat.not_lt_zero _)⟩
  · intro fu j s hj hs
    obtain ⟨y, rfl, hF, hO, hK⟩ := hs
    obtain ⟨F', f1, f2, f3, f4⟩ := xMus7 (NF := NF) (V := V) (F0 := y) (c := j) hj (k3 := fun z0 z1 z2 => gsX_X1_muster_1_L3 NF fu z0 z1 z2)
    refine Or.inl ⟨(V, F'), ⟨F', rfl, fun q hq => (f1 q hq).trans (hF q hq), fun i hi => ?_, fun c hc p hp => ?_⟩, ?_⟩
    · rw [f2 i (fun p hp => by omega)]
      exact hO i hi
    · by_cases e : c = j
      · rw [e, f3 p hp]
        exact xCP (hF 10 (by decide)) _ _
      · rw [f2 (12 + p * 6 + c) (fun p' hp' => by omega)]
        exact hK c (by omega) p hp
    · show gsX_X1_muster_1_L3 NF (fu + 1) (nI j) V y = gsX_X1_muster_1_L3 NF fu (nI (j + 1)) V F'
      simp only [gsX_X1_muster_1_L3]
      rw [if_neg (show ¬ (6 : Int32) ≤ nI j from lit_nle (b := 6) rfl hj (by decide)), f4]
  · intro fu s hs
    obtain ⟨y, rfl, hF, hO, hK⟩ := hs
    refine ⟨upd2 (upd2 y 15 (upd (y 15) 42 0)) 15 (upd (upd (y 15) 42 0) 43 (V 37)), fun q hq => (u2n hq).trans ((u2n hq).trans (hF q hq)), fun i hi => ?_, fun c hc p hp => ?_, ?_, ?_, ?_⟩
    · show upd (upd (y 15) 42 0) 43 (V 37) i = _
      rw [pk_un (by omega), pk_un (by omega)]
      exact hO i hi
    · show upd (upd (y 15) 42 0) 43 (V 37) (12 + p * 6 + c) = _
      rw [pk_un (by omega), pk_un (by omega)]
      exact hK c hc p hp
    · show upd (upd (y 15) 42 0) 43 (V 37) 42 = 0
      rw [pk_un (by decide), pk_us]
    · show upd (upd (y 15) 42 0) 43 (V 37) 43 = V 37
      rw [pk_us]
    · show gsX_X1_muster_1_L3 NF (fu + 1) (nI 6) V y = _
      simp only [gsX_X1_muster_1_L3]
      rw [if_pos (show (6 : Int32) ≤ nI 6 from lit_le (b := 6) rfl (Nat.le_refl _) (by decide))]
      all_goals rfl
theorem xManP {V : Nat → Int32} {F : Nat → Nat → Int32} {a p m : Nat} (h : V 31 = nI a) (ha : a ≤ 6) (hm : m < a) (hp : p < 3) : gsX_X7_manPart_1 NF (nI p) (nI m) V F = F 9 (p * 6 + m) := by
  have e1 : gsX_X7_hasMan_1 NF (nI m) V F = 1 := by
    simp only [gsX_X7_hasMan_1, h]
    rw [if_neg (show ¬ nI m < (0 : Int32) from nI_pos (by omega)), if_neg (show ¬ nI a ≤ nI m from nI_ge hm (by omega))]
  simp only [gsX_X7_manPart_1, e1]
  rw [if_pos trivial, if_neg (show ¬ nI p < (0 : Int32) from nI_pos (by omega)), if_neg (show ¬ (3 : Int32) ≤ nI p from lit_nle (b := 3) rfl hp (by decide)), show nI p * 6 = nI (p * 6) from nI_mulI p 6, nI_add, nI_clamp (show p * 6 + m < 2 ^ 31 by omega)]
theorem xCoatP {V : Nat → Int32} {F : Nat → Nat → Int32} {b p c : Nat} (h : V 32 = nI b) (hb : b ≤ 6) (hc : c < b) (hp : p < 4) : gsX_X7_coatPart_1 NF (nI p) (nI c) V F = F 10 (p * 6 + c) := by
  have e1 : gsX_X7_hasCoat_1 NF (nI c) V F = 1 := by
    simp only [gsX_X7_hasCoat_1, h]
    rw [if_neg (show ¬ nI c < (0 : Int32) from nI_pos (by omega)), if_neg (show ¬ nI b ≤ nI c from nI_ge hc (by omega))]
  simp only [gsX_X7_coatPart_1, e1]
  rw [if_pos trivial, if_neg (show ¬ nI p < (0 : Int32) from nI_pos (by omega)), if_neg (show ¬ (4 : Int32) ≤ nI p from lit_nle (b := 4) rfl hp (by decide)), show nI p * 6 = nI (p * 6) from nI_mulI p 6, nI_add, nI_clamp (show p * 6 + c < 2 ^ 31 by omega)]
theorem xCoatP4 {V : Nat → Int32} {F : Nat → Nat → Int32} {q : Int32} : gsX_X7_coatPart_1 NF (nI 4) q V F = 0 := by
  simp only [gsX_X7_coatPart_1]
  rw [if_neg (show ¬ nI 4 < (0 : Int32) from nI_pos (by omega)), if_pos (show (4 : Int32) ≤ nI 4 from lit_le (b := 4) rfl (Nat.le_refl _) (by decide))]
  exact ite_self _
theorem xMuster {V : Nat → Int32} {F0 : Nat → Nat → Int32} {a b : Nat} (ha : V 31 = nI a) (hb : V 32 = nI b) (ha6 : a ≤ 6) (hb6 : b ≤ 6) : ∃ F' : Nat → Nat → Int32, (∀ q, q ≠ 15 → F' q = F0 q) ∧ (∀ k, k < a → F' 15 k = F0 9 (6 + k) ∧ F' 15 (6 + k) = -1) ∧ (∀ k, k < b → F' 15 (12 + k) = F0 10 k ∧ F' 15 (18 + k) = F0 10 (6 + k) ∧ F' 15 (24 + k) = F0 10 (12 + k) ∧ F' 15 (30 + k) = F0 10 (18 + k) ∧ F' 15 (36 + k) = 0) ∧ F' 15 42 = 0 ∧ F' 15 43 = V 37 ∧ gsX_X1_muster_1 NF V F0 = (V, F') := by
  obtain ⟨A, a1, a2, a3, a4⟩ := xMus1 (NF := NF) (V := V) (F0 := F0)
  obtain ⟨B, b1, b2, b3, b4, b5, b6⟩ := xMus3 (NF := NF) (V := V) (F0 := A)
  refine ⟨B, fun q hq => (b1 q hq).trans (a1 q hq), fun k hk => ⟨?_, ?_⟩, fun k hk => ?_, b4, b5, ?_⟩
  · rw [b2 k (by omega), (a3 k (by omega)).1]
    exact xManP (p := 1) ha ha6 hk (by decide)
  · rw [b2 (6 + k) (by omega)]
    exact (a3 k (by omega)).2
  · have q0 : B 15 (12 + k) = A 10 (0 + k) := (b3 k (by omega) 0 (by decide)).trans (xCoatP (p := 0) hb hb6 hk (by decide))
    have q1 : B 15 (18 + k) = A 10 (6 + k) := (b3 k (by omega) 1 (by decide)).trans (xCoatP (p := 1) hb hb6 hk (by decide))
    have q2 : B 15 (24 + k) = A 10 (12 + k) := (b3 k (by omega) 2 (by decide)).trans (xCoatP (p := 2) hb hb6 hk (by decide))
    have q3 : B 15 (30 + k) = A 10 (18 + k) := (b3 k (by omega) 3 (by decide)).trans (xCoatP (p := 3) hb hb6 hk (by decide))
    have q4 : B 15 (36 + k) = 0 := (b3 k (by omega) 4 (by decide)).trans xCoatP4
    rw [Nat.zero_add] at q0
    rw [a1 10 (by decide)] at q0 q1 q2 q3
    exact ⟨q0, q1, q2, q3, q4⟩
  · unfold gsX_X1_muster_1
    rw [a4, b6]
theorem yBegin {V : Nat → Int32} {F0 : Nat → Nat → Int32} {W : Int64} {G : Nat → Int64} {a b : Nat} (ha : V 24 = nI a) (hb : V 25 = nI b) (ha6 : a ≤ 6) (hb6 : b ≤ 6) : ∃ F' : Nat → Nat → Int32, (∀ q, q ≠ 24 → F' q = F0 q) ∧ (∀ k, k < a → F' 24 k = F0 17 k ∧ F' 24 (6 + k) = -1) ∧ (∀ k, k < b → F' 24 (12 + k) = F0 19 k ∧ F' 24 (18 + k) = F0 20 k ∧ F' 24 (24 + k) = F0 21 k ∧ F' 24 (30 + k) = F0 22 k) ∧ F' 24 36 = 0 ∧ F' 24 37 = 0 ∧ gsY_X11_begin_1 NF V F0 W G = (V, F', W, G) := by
  obtain ⟨A, a1, a2, a3, a4⟩ := yBeg1 (NF := NF) (vv := V) (V := V) (F0 := F0) (W := W) (G := G)
  obtain ⟨B, b1, b2, b3, b4⟩ := yBeg3 (NF := NF) (vv := V) (V := V) (F0 := A) (W := W) (G := G) ha ha6
  obtain ⟨C, c1, c2, c3, c4⟩ := yBeg7 (NF := NF) (vv := V) (V := V) (F0 := B) (W := W) (G := G) hb hb6
  have z : ∀ k, k < 39 → A 24 k = 0 := a3
  refine ⟨C, fun q hq => (c1 q hq).trans ((b1 q hq).trans (a1 q hq)), fun k hk => ⟨?_, ?_⟩, fun k hk => ?_, ?_, ?_, ?_⟩
  · rw [c2 k (by omega) (by omega) (by omega) (by omega), (b3 k hk).1, a1 17 (by decide)]
  · rw [c2 (6 + k) (by omega) (by omega) (by omega) (by omega)]
    exact (b3 k hk).2
  · obtain ⟨q1, q2, q3, q4⟩ := c3 k hk
    rw [q1, q2, q3, q4, b1 19 (by decide), b1 20 (by decide), b1 21 (by decide), b1 22 (by decide), a1 19 (by decide), a1 20 (by decide), a1 21 (by decide), a1 22 (by decide)]
    exact ⟨rfl, rfl, rfl, rfl⟩
  · rw [c2 36 (by omega) (by omega) (by omega) (by omega), b2 36 (by omega) (by omega)]; exact z 36 (by decide)
  · rw [c2 37 (by omega) (by omega) (by omega) (by omega), b2 37 (by omega) (by omega)]; exact z 37 (by decide)
  · unfold gsY_X11_begin_1
    rw [a4, b4, c4]
theorem yKeepAir {V : Nat → Int32} {F0 : Nat → Nat → Int32} {W : Int64} {G : Nat → Int64} : ∃ F' : Nat → Nat → Int32, (∀ q, q ≠ 23 → F' q = F0 q) ∧ (∀ k, k < 39 → F' 23 k = F0 24 k) ∧ gsY_X11_keepAir_1 NF V F0 W G = (V, F', W, G) := by
  obtain ⟨A, a1, a2, a3, a4⟩ := yKeep1 (NF := NF) (V := V) (F0 := F0) (W := W) (G := G)
  exact ⟨A, a1, a3, a4⟩
end
