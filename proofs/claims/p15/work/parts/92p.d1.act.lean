section
variable {NF : Nat}
theorem yFill1 {V : Nat → Int32} {F0 : Nat → Nat → Int32} {W : Int64} {G : Nat → Int64} : ∃ F' : Nat → Nat → Int32, (∀ q, q ≠ 24 → F' q = F0 q) ∧ (∀ i, ¬ i < 39 → F' 24 i = F0 24 i) ∧ (∀ k, k < 39 → F' 24 k = F0 23 k) ∧ gsY_X11_fill_1_L1 NF (4294967296 + NF) 0 V F0 W G = (V, F', W, G) := by
  refine lpQ (S := SY) (fun fu i s => gsY_X11_fill_1_L1 NF fu i s.1 s.2.1 s.2.2.1 s.2.2.2) (fun r => ∃ F' : Nat → Nat → Int32, (∀ q, q ≠ 24 → F' q = F0 q) ∧ (∀ i, ¬ i < 39 → F' 24 i = F0 24 i) ∧ (∀ k, k < 39 → F' 24 k = F0 23 k) ∧ r = (V, F', W, G)) (fun j s => ∃ F' : Nat → Nat → Int32, s = (V, F', W, G) ∧ (∀ q, q ≠ 24 → F' q = F0 q) ∧ (∀ i, ¬ i < 39 → F' 24 i = F0 24 i) ∧ (∀ k, k < j → F' 24 k = F0 23 k)) 39 ?_ ?_ 39 0 (4294967296 + NF) (V, F0, W, G) (by omega) (by omega) ⟨F0, rfl, fun q _ => rfl, fun i _ => rfl, fun k hk => absurd hk (Nat.not_lt_zero _)⟩
  · intro fu j s hj hs
    obtain ⟨y, rfl, hF, hO24, hK⟩ := hs
    refine Or.inl ⟨(V, (upd2 y 24 (upd (y 24) j (y 23 j))), W, G), ⟨_, rfl, ?_, ?_, ?_⟩, ?_⟩
    · intro q h24
      exact (u2n h24).trans (hF q h24)
    · intro i z0
      show (upd (y 24) j (y 23 j)) i = _
      rw [pk_un (by omega)]
      exact hO24 i z0
    · intro k hk
      show (upd (y 24) j (y 23 j)) k = F0 23 k
      by_cases e : k = j
      · subst e
        exact by rw [pk_us]; exact congrFun (hF 23 (by decide)) _
      · exact by rw [pk_un (by omega)]; exact hK k (by omega)
    · show gsY_X11_fill_1_L1 NF (fu + 1) (nI j) V y W G = gsY_X11_fill_1_L1 NF fu (nI (j + 1)) V (upd2 y 24 (upd (y 24) j (y 23 j))) W G
      simp only [gsY_X11_fill_1_L1]
      rw [if_neg (show ¬ (39 : Int32) ≤ nI j from lit_nle (b := 39) rfl hj (by decide)), nI_1, nI_clamp (show j < 2 ^ 31 by omega)]
      all_goals first | rfl | (simp only [upd2_2]; done) | (simp only [upd2_2]; rfl)
  · intro fu s hs
    obtain ⟨y, rfl, hF, hO, hK⟩ := hs
    refine ⟨y, hF, hO, hK, ?_⟩
    show gsY_X11_fill_1_L1 NF (fu + 1) (nI 39) V y W G = _
    simp only [gsY_X11_fill_1_L1]
    rw [if_pos (show (39 : Int32) ≤ nI 39 from lit_le (b := 39) rfl (Nat.le_refl _) (by decide))]
    all_goals rfl
theorem yFill {V : Nat → Int32} {F0 : Nat → Nat → Int32} {W : Int64} {G : Nat → Int64} : ∃ F' : Nat → Nat → Int32, (∀ q, q ≠ 24 → F' q = F0 q) ∧ (∀ k, k < 39 → F' 24 k = F0 23 k) ∧ gsY_X11_fill_1 NF V F0 W G = (V, F', W, G) := by
  obtain ⟨A, a1, a2, a3, a4⟩ := yFill1 (NF := NF) (V := V) (F0 := F0) (W := W) (G := G)
  exact ⟨A, a1, a3, a4⟩
theorem yActA {vv : Nat → Int32} {V : Nat → Int32} {F0 : Nat → Nat → Int32} {W : Int64} {G : Nat → Int64} {o : Nat} (ho : o < 100000) (he : 39 * vv 35 = nI o) : ∃ F' : Nat → Nat → Int32, (∀ q, q ≠ 25 → F' q = F0 q) ∧ (∀ i, ¬ (o ≤ i ∧ i < o + 39) → F' 25 i = F0 25 i) ∧ (∀ k, k < 39 → F' 25 (o + k) = F0 23 k) ∧ gsY_X11_act_1_L2 NF vv (4294967296 + NF) 0 V F0 W G = (match gsY_X11_fill_1 NF (upd (upd V 35 (vv 35 + 1)) 36 0) F' W G with | (v7, f8, w9, g10) => (v7, f8, w9, g10)) := by
  refine lpQ (S := SY) (fun fu i s => gsY_X11_act_1_L2 NF vv fu i s.1 s.2.1 s.2.2.1 s.2.2.2) (fun r => ∃ F' : Nat → Nat → Int32, (∀ q, q ≠ 25 → F' q = F0 q) ∧ (∀ i, ¬ (o ≤ i ∧ i < o + 39) → F' 25 i = F0 25 i) ∧ (∀ k, k < 39 → F' 25 (o + k) = F0 23 k) ∧ r = (match gsY_X11_fill_1 NF (upd (upd V 35 (vv 35 + 1)) 36 0) F' W G with | (v7, f8, w9, g10) => (v7, f8, w9, g10))) (fun j s => ∃ F' : Nat → Nat → Int32, s = (V, F', W, G) ∧ (∀ q, q ≠ 25 → F' q = F0 q) ∧ (∀ i, ¬ (o ≤ i ∧ i < o + 39) → F' 25 i = F0 25 i) ∧ (∀ k, k < j → F' 25 (o + k) = F0 23 k)) 39 ?_ ?_ 39 0 (4294967296 + NF) (V, F0, W, G) (by omega) (by omega) ⟨F0, rfl, fun q _ => rfl, fun i _ => rfl, fun k hk => absurd hk (Nat.not_lt_zero _)⟩
  · intro fu j s hj hs
    obtain ⟨y, rfl, hF, hO, hK⟩ := hs
    refine Or.inl ⟨(V, upd2 y 25 (upd (y 25) (o + j) (y 23 j)), W, G), ⟨_, rfl, ?_, ?_, ?_⟩, ?_⟩
    · intro q hq
      exact (u2n hq).trans (hF q hq)
    · intro i hi
      show (upd (y 25) (o + j) (y 23 j)) i = _
      rw [pk_un (by omega)]
      exact hO i hi
    · intro k hk
      show (upd (y 25) (o + j) (y 23 j)) (o + k) = _
      by_cases e : k = j
      · rw [e, pk_us, hF 23 (by decide)]
      · rw [pk_un (by omega)]
        exact hK k (by omega)
    · show gsY_X11_act_1_L2 NF vv (fu + 1) (nI j) V y W G = gsY_X11_act_1_L2 NF vv fu (nI (j + 1)) V _ W G
      simp only [gsY_X11_act_1_L2]
      rw [if_neg (show ¬ (39 : Int32) ≤ nI j from lit_nle (b := 39) rfl hj (by decide)), nI_1, he, nI_add, nI_clamp (show o + j < 2 ^ 31 by omega), nI_clamp (show j < 2 ^ 31 by omega)]
  · intro fu s hs
    obtain ⟨y, rfl, hF, hO, hK⟩ := hs
    refine ⟨y, hF, hO, hK, ?_⟩
    show gsY_X11_act_1_L2 NF vv (fu + 1) (nI 39) V y W G = _
    simp only [gsY_X11_act_1_L2]
    rw [if_pos (show (39 : Int32) ≤ nI 39 from lit_le (b := 39) rfl (Nat.le_refl _) (by decide))]
    all_goals rfl
theorem yActB {tt : Int32} {V : Nat → Int32} {F0 : Nat → Nat → Int32} {W : Int64} {G : Nat → Int64} {o : Nat} (ho : o < 100000) (he : 39 * tt = nI o) : ∃ F' : Nat → Nat → Int32, (∀ q, q ≠ 25 → F' q = F0 q) ∧ (∀ i, ¬ (o ≤ i ∧ i < o + 39) → F' 25 i = F0 25 i) ∧ (∀ k, k < 39 → F' 25 (o + k) = F0 23 k) ∧ gsY_X11_act_1_L24 NF tt (4294967296 + NF) 0 V F0 W G = (match gsY_X11_fill_1 NF (upd (upd V 35 (tt + 1)) 36 0) F' W G with | (v7, f8, w9, g10) => (v7, f8, w9, g10)) := by
  refine lpQ (S := SY) (fun fu i s => gsY_X11_act_1_L24 NF tt fu i s.1 s.2.1 s.2.2.1 s.2.2.2) (fun r => ∃ F' : Nat → Nat → Int32, (∀ q, q ≠ 25 → F' q = F0 q) ∧ (∀ i, ¬ (o ≤ i ∧ i < o + 39) → F' 25 i = F0 25 i) ∧ (∀ k, k < 39 → F' 25 (o + k) = F0 23 k) ∧ r = (match gsY_X11_fill_1 NF (upd (upd V 35 (tt + 1)) 36 0) F' W G with | (v7, f8, w9, g10) => (v7, f8, w9, g10))) (fun j s => ∃ F' : Nat → Nat → Int32, s = (V, F', W, G) ∧ (∀ q, q ≠ 25 → F' q = F0 q) ∧ (∀ i, ¬ (o ≤ i ∧ i < o + 39) → F' 25 i = F0 25 i) ∧ (∀ k, k < j → F' 25 (o + k) = F0 23 k)) 39 ?_ ?_ 39 0 (4294967296 + NF) (V, F0, W, G) (by omega) (by omega) ⟨F0, rfl, fun q _ => rfl, fun i _ => rfl, fun k hk => absurd hk (Nat.not_lt_zero _)⟩
  · intro fu j s hj hs
    obtain ⟨y, rfl, hF, hO, hK⟩ := hs
    refine Or.inl ⟨(V, upd2 y 25 (upd (y 25) (o + j) (y 23 j)), W, G), ⟨_, rfl, ?_, ?_, ?_⟩, ?_⟩
    · intro q hq
      exact (u2n hq).trans (hF q hq)
    · intro i hi
      show (upd (y 25) (o + j) (y 23 j)) i = _
      rw [pk_un (by omega)]
      exact hO i hi
    · intro k hk
      show (upd (y 25) (o + j) (y 23 j)) (o + k) = _
      by_cases e : k = j
      · rw [e, pk_us, hF 23 (by decide)]
      · rw [pk_un (by omega)]
        exact hK k (by omega)
    · show gsY_X11_act_1_L24 NF tt (fu + 1) (nI j) V y W G = gsY_X11_act_1_L24 NF tt fu (nI (j + 1)) V _ W G
      simp only [gsY_X11_act_1_L24]
      rw [if_neg (show ¬ (39 : Int32) ≤ nI j from lit_nle (b := 39) rfl hj (by decide)), nI_1, he, nI_add, nI_clamp (show o + j < 2 ^ 31 by omega), nI_clamp (show j < 2 ^ 31 by omega)]
  · intro fu s hs
    obtain ⟨y, rfl, hF, hO, hK⟩ := hs
    refine ⟨y, hF, hO, hK, ?_⟩
    show gsY_X11_act_1_L24 NF tt (fu + 1) (nI 39) V y W G = _
    simp only [gsY_X11_act_1_L24]
    rw [if_pos (show (39 : Int32) ≤ nI 39 from lit_le (b := 39) rfl (Nat.le_refl _) (by decide))]
    all_goals rfl
theorem yImg {pp : Int32} {V : Nat → Int32} {F0 : Nat → Nat → Int32} {W : Int64} {G : Nat → Int64} {o : Nat} (ho : o < 100000) (he : 39 * pp = nI o) : ∃ F' : Nat → Nat → Int32, (∀ q, q ≠ 37 → F' q = F0 q) ∧ (∀ i, ¬ (o ≤ i ∧ i < o + 39) → F' 37 i = F0 37 i) ∧ (∀ k, k < 39 → F' 37 (o + k) = F0 23 k) ∧ gsY_X11_image_1_L5 NF pp (4294967296 + NF) 0 V F0 W G = (F' 23 (37 : Int32).toNatClampNeg, V, F', W, G) := by
  refine lpQ (S := SY) (fun fu i s => gsY_X11_image_1_L5 NF pp fu i s.1 s.2.1 s.2.2.1 s.2.2.2) (fun r => ∃ F' : Nat → Nat → Int32, (∀ q, q ≠ 37 → F' q = F0 q) ∧ (∀ i, ¬ (o ≤ i ∧ i < o + 39) → F' 37 i = F0 37 i) ∧ (∀ k, k < 39 → F' 37 (o + k) = F0 23 k) ∧ r = (F' 23 (37 : Int32).toNatClampNeg, V, F', W, G)) (fun j s => ∃ F' : Nat → Nat → Int32, s = (V, F', W, G) ∧ (∀ q, q ≠ 37 → F' q = F0 q) ∧ (∀ i, ¬ (o ≤ i ∧ i < o + 39) → F' 37 i = F0 37 i) ∧ (∀ k, k < j → F' 37 (o + k) = F0 23 k)) 39 ?_ ?_ 39 0 (4294967296 + NF) (V, F0, W, G) (by omega) (by omega) ⟨F0, rfl, fun q _ => rfl, fun i _ => rfl, fun k hk => absurd hk (Nat.not_lt_zero _)⟩
  · intro fu j s hj hs
    obtain ⟨y, rfl, hF, hO, hK⟩ := hs
    refine Or.inl ⟨(V, upd2 y 37 (upd (y 37) (o + j) (y 23 j)), W, G), ⟨_, rfl, ?_, ?_, ?_⟩, ?_⟩
    · intro q hq
      exact (u2n hq).trans (hF q hq)
    · intro i hi
      show (upd (y 37) (o + j) (y 23 j)) i = _
      rw [pk_un (by omega)]
      exact hO i hi
    · intro k hk
      show (upd (y 37) (o + j) (y 23 j)) (o + k) = _
      by_cases e : k = j
      · rw [e, pk_us, hF 23 (by decide)]
      · rw [pk_un (by omega)]
        exact hK k (by omega)
    · show gsY_X11_image_1_L5 NF pp (fu + 1) (nI j) V y W G = gsY_X11_image_1_L5 NF pp fu (nI (j + 1)) V _ W G
      simp only [gsY_X11_image_1_L5]
      rw [if_neg (show ¬ (39 : Int32) ≤ nI j from lit_nle (b := 39) rfl hj (by decide)), nI_1, he, nI_add, nI_clamp (show o + j < 2 ^ 31 by omega), nI_clamp (show j < 2 ^ 31 by omega)]
  · intro fu s hs
    obtain ⟨y, rfl, hF, hO, hK⟩ := hs
    refine ⟨y, hF, hO, hK, ?_⟩
    show gsY_X11_image_1_L5 NF pp (fu + 1) (nI 39) V y W G = _
    simp only [gsY_X11_image_1_L5]
    rw [if_pos (show (39 : Int32) ≤ nI 39 from lit_le (b := 39) rfl (Nat.le_refl _) (by decide))]
    all_goals rfl
theorem yShift {vv V : Nat → Int32} {F0 : Nat → Nat → Int32} {W : Int64} {G : Nat → Int64} : ∃ F' : Nat → Nat → Int32, (∀ q, q ≠ 25 → F' q = F0 q) ∧ (∀ i, i < 1521 → F' 25 i = F0 25 (39 + i)) ∧ gsY_X11_act_1_L20 NF vv (4294967296 + NF) 0 V F0 W G = gsY_X11_act_1_L24 NF (vv 35 - 1) (4294967296 + NF) 0 (upd V 35 (vv 35 - 1)) F' W G := by
  refine lpQ (S := SY) (fun fu i s => gsY_X11_act_1_L20 NF vv fu i s.1 s.2.1 s.2.2.1 s.2.2.2) (fun r => ∃ F' : Nat → Nat → Int32, (∀ q, q ≠ 25 → F' q = F0 q) ∧ (∀ i, i < 1521 → F' 25 i = F0 25 (39 + i)) ∧ r = gsY_X11_act_1_L24 NF (vv 35 - 1) (4294967296 + NF) 0 (upd V 35 (vv 35 - 1)) F' W G) (fun j s => ∃ F' : Nat → Nat → Int32, s = (V, F', W, G) ∧ (∀ q, q ≠ 25 → F' q = F0 q) ∧ (∀ i, i < j → F' 25 i = F0 25 (39 + i)) ∧ (∀ i, j ≤ i → F' 25 i = F0 25 i)) 1521 ?_ ?_ 1521 0 (4294967296 + NF) (V, F0, W, G) (by omega) (by omega) ⟨F0, rfl, fun q _ => rfl, fun k hk => absurd hk (Nat.not_lt_zero _), fun i _ => rfl⟩
  · intro fu j s hj hs
    obtain ⟨y, rfl, hF, hK, hO⟩ := hs
    refine Or.inl ⟨(V, upd2 y 25 (upd (y 25) j (y 25 (39 + j))), W, G), ⟨_, rfl, ?_, ?_, ?_⟩, ?_⟩
    · intro q hq
      exact (u2n hq).trans (hF q hq)
    · intro i hi
      show (upd (y 25) j (y 25 (39 + j))) i = _
      by_cases e : i = j
      · rw [e, pk_us]; exact hO _ (by omega)
      · rw [pk_un e]; exact hK i (by omega)
    · intro i hi
      show (upd (y 25) j (y 25 (39 + j))) i = _
      rw [pk_un (by omega)]
      exact hO i (by omega)
    · show gsY_X11_act_1_L20 NF vv (fu + 1) (nI j) V y W G = gsY_X11_act_1_L20 NF vv fu (nI (j + 1)) V _ W G
      simp only [gsY_X11_act_1_L20]
      rw [if_neg (show ¬ (1521 : Int32) ≤ nI j from lit_nle (b := 1521) rfl hj (by decide)), nI_1, show (39 : Int32) + nI j = nI (39 + j) from nI_add 39 j, nI_clamp (show j < 2 ^ 31 by omega), nI_clamp (show 39 + j < 2 ^ 31 by omega)]
  · intro fu s hs
    obtain ⟨y, rfl, hF, hK, hO⟩ := hs
    refine ⟨y, hF, hK, ?_⟩
    show gsY_X11_act_1_L20 NF vv (fu + 1) (nI 1521) V y W G = _
    simp only [gsY_X11_act_1_L20]
    rw [if_pos (show (1521 : Int32) ≤ nI 1521 from lit_le (b := 1521) rfl (Nat.le_refl _) (by decide))]
theorem yAct {V : Nat → Int32} {F : Nat → Nat → Int32} {W : Int64} {G : Nat → Int64} {d : Nat} (h35 : V 35 = nI d) (hd : d ≤ 40) : ∃ (d' : Nat) (V' : Nat → Int32) (F' : Nat → Nat → Int32), gsY_X11_act_1 NF V F W G = (V', F', W, G) ∧ V' 35 = nI d' ∧ V' 36 = nI 0 ∧ (∀ k, k ≠ 35 → k ≠ 36 → V' k = V k) ∧ (∀ q, q ≠ 24 → q ≠ 25 → F' q = F q) ∧ (∀ k, k < 39 → F' 24 k = F 23 k) ∧ ((d < 40 ∧ d' = d + 1 ∧ (∀ k, k < 39 → F' 25 (39 * d + k) = F 23 k) ∧ ∀ i, i < 39 * d → F' 25 i = F 25 i) ∨ (d = 40 ∧ d' = 40 ∧ (∀ k, k < 39 → F' 25 (1521 + k) = F 23 k) ∧ ∀ i, i < 1521 → F' 25 i = F 25 (39 + i))) := by
  by_cases c : d = 40
  · obtain ⟨A, a1, a2, a3⟩ := yShift (NF := NF) (vv := V) (V := V) (F0 := F) (W := W) (G := G)
    have e39 : V 35 - 1 = nI 39 := by rw [h35, c]; rfl
    rw [e39] at a3
    obtain ⟨B, b1, b2, b3, b4⟩ := yActB (NF := NF) (tt := nI 39) (V := upd V 35 (nI 39)) (F0 := A) (W := W) (G := G) (o := 1521) (by decide) (by decide)
    obtain ⟨C, c1, c2, c3⟩ := yFill (NF := NF) (V := upd (upd (upd V 35 (nI 39)) 35 (nI 39 + 1)) 36 0) (F0 := B) (W := W) (G := G)
    rw [c3] at b4
    refine ⟨40, upd (upd (upd V 35 (nI 39)) 35 (nI 39 + 1)) 36 0, C, ?_, (pk_un (by decide)).trans pk_us, pk_us, fun k k1 k2 => (pk_un k2).trans ((pk_un k1).trans (pk_un k1)), fun q q1 q2 => (c1 q q1).trans ((b1 q q2).trans (a1 q q2)), fun k hk => ?_, Or.inr ⟨c, rfl, fun k hk => ?_, fun i hi => ?_⟩⟩
    · simp only [gsY_X11_act_1]
      rw [if_pos (show V 35 = 40 by rw [h35, c]; rfl), a3]
      exact b4
    · rw [c2 k hk, b1 23 (by decide), a1 23 (by decide)]
    · rw [c1 25 (by decide), b3 k hk, a1 23 (by decide)]
    · rw [c1 25 (by decide), b2 i (by omega)]
      exact a2 i hi
  · obtain ⟨B, b1, b2, b3, b4⟩ := yActA (NF := NF) (vv := V) (V := V) (F0 := F) (W := W) (G := G) (o := 39 * d) (by omega) (by rw [h35]; exact nI_mulI 39 d)
    obtain ⟨C, c1, c2, c3⟩ := yFill (NF := NF) (V := upd (upd V 35 (V 35 + 1)) 36 0) (F0 := B) (W := W) (G := G)
    rw [c3] at b4
    refine ⟨d + 1, upd (upd V 35 (V 35 + 1)) 36 0, C, ?_, (pk_un (by decide)).trans (pk_us.trans (by rw [h35, nI_1])), pk_us, fun k k1 k2 => (pk_un k2).trans (pk_un k1), fun q q1 q2 => (c1 q q1).trans (b1 q q2), fun k hk => ?_, Or.inl ⟨by omega, rfl, fun k hk => ?_, fun i hi => ?_⟩⟩
    · simp only [gsY_X11_act_1]
      rw [if_neg (show ¬ V 35 = 40 by rw [h35]; exact nlit 40 40 rfl (by omega) (by decide) c)]
      exact b4
    · rw [c2 k hk, b1 23 (by decide)]
    · rw [c1 25 (by decide)]; exact b3 k hk
    · rw [c1 25 (by decide)]; exact b2 i (by omega)
theorem ACT.step {a b : Nat} {v : Nat → Int32} {f F : Nat → Nat → Int32} {v1 : Nat → Int32} {f1 F1 F2 : Nat → Nat → Int32} {w1 : Int64} {g : Nat → Int64} (ha : a ≤ 6) (hb : b ≤ 6) (h : ACT a b v f v1 f1) (hn : NWR 999 a b (f 15) (f1 23)) (hF : F 17 = f 17) (hF1 : F1 25 = f1 25) (hF3 : F1 23 = f1 23) {V' : Nat → Int32} {F' : Nat → Nat → Int32} {V1' : Nat → Int32} {F1' : Nat → Nat → Int32} (e : gsX_X5_keepAct_1 NF v F = (V', F')) (e' : gsY_X11_act_1 NF v1 F1 w1 g = (V1', F1', w1, g)) (h25 : F2 25 = F1' 25) : ACT a b V' F' V1' F2 ∧ (∀ k, k ≠ 21 → k ≠ 22 → k ≠ 23 → V' k = v k) ∧ (∀ q, q ≠ 17 → F' q = F q) ∧ (∀ k, k ≠ 35 → k ≠ 36 → V1' k = v1 k) ∧ (∀ q, q ≠ 24 → q ≠ 25 → F1' q = F1 q) ∧ (∀ k, k < 39 → F1' 24 k = f1 23 k) := by
  obtain ⟨p, d, u, hp, hdu, h21, h22, h23, h35, h36, hr, hs, hl⟩ := h
  obtain ⟨p', d', X, c1, c2, c3, c4, c5, c6⟩ := xKeep (NF := NF) (F := F) h21 h22 hp (by omega)
  obtain ⟨dd, Y, Z, y1, y2, y3, y4, y5, y6, y7⟩ := yAct (NF := NF) (F := F1) (W := w1) (G := g) h35 (by omega)
  rw [c2] at e
  rw [y1] at e'
  cases e
  cases e'
  have row : ∀ r k, k < 44 → r < 41 → r ≠ (p' + d') % 41 → va_cpy (F 15) (F 17) 0 ((p' + d') % 41 * 44) 44 (r * 44 + k) = f 17 (r * 44 + k) := fun r k hk hr hne => by
    rw [cpy_off (by omega), hF]
  refine ⟨⟨p', d', 0, ?_, ?_, c3, c4, c5, ?_, y3, fun i hi => ?_, fun i h1 h2 => absurd h2 (by omega), fun k hk => ?_⟩, c6, fun q hq => u2n hq, y4, y5, fun k hk => by rw [y6 k hk, hF3]⟩
  · omega
  · omega
  · rw [y2]
    have : dd = d' := by omega
    rw [this]
  · show NWR 999 a b (fun k => va_cpy (F 15) (F 17) 0 ((p' + d') % 41 * 44) 44 ((p' + i) % 41 * 44 + k)) (fun k => F2 25 (39 * i + k))
    rw [h25]
    rcases y7 with ⟨z1, z2, z3, z4⟩ | ⟨z1, z2, z3, z4⟩
    · have ep : p' = p ∧ d' = d + 1 := by omega
      obtain ⟨rfl, rfl⟩ := ep
      by_cases ei : i = d
      · subst ei
        refine hn.cg ha hb (fun k hk => ?_) (fun k hk => ?_)
        · show va_cpy (F 15) (F 17) 0 ((p' + (i + 1)) % 41 * 44) 44 ((p' + i) % 41 * 44 + k) = _
          rw [row ((p' + i) % 41) k hk (Nat.mod_lt _ (by decide)) (by omega)]
          exact hl k hk
        · show F1' 25 (39 * i + k) = _
          rw [z3 k hk, hF3]
      · refine (hr i (by omega)).cg ha hb (fun k hk => ?_) (fun k hk => ?_)
        · show va_cpy (F 15) (F 17) 0 ((p' + (d + 1)) % 41 * 44) 44 ((p' + i) % 41 * 44 + k) = _
          rw [row ((p' + i) % 41) k hk (Nat.mod_lt _ (by decide)) (by omega)]
        · show F1' 25 (39 * i + k) = _
          rw [z4 _ (by omega), hF1]
    · have ep : p' = (p + 1) % 41 ∧ d' = 40 := by omega
      obtain ⟨rfl, rfl⟩ := ep
      subst z1
      by_cases ei : i = 39
      · subst ei
        refine hn.cg ha hb (fun k hk => ?_) (fun k hk => ?_)
        · show va_cpy (F 15) (F 17) 0 (((p + 1) % 41 + 40) % 41 * 44) 44 (((p + 1) % 41 + 39) % 41 * 44 + k) = _
          rw [row (((p + 1) % 41 + 39) % 41) k hk (Nat.mod_lt _ (by decide)) (by omega), show ((p + 1) % 41 + 39) % 41 = (p + 40) % 41 by omega]
          exact hl k hk
        · show F1' 25 (39 * 39 + k) = _
          rw [show 39 * 39 + k = 1521 + k from rfl, z3 k hk, hF3]
      · refine (hr (i + 1) (by omega)).cg ha hb (fun k hk => ?_) (fun k hk => ?_)
        · show va_cpy (F 15) (F 17) 0 (((p + 1) % 41 + 40) % 41 * 44) 44 (((p + 1) % 41 + i) % 41 * 44 + k) = f 17 ((p + (i + 1)) % 41 * 44 + k)
          rw [row (((p + 1) % 41 + i) % 41) k hk (Nat.mod_lt _ (by decide)) (by omega), show ((p + 1) % 41 + i) % 41 = (p + (i + 1)) % 41 by omega]
        · show F1' 25 (39 * i + k) = f1 25 (39 * (i + 1) + k)
          rw [z4 _ (by omega), hF1, show 39 + (39 * i + k) = 39 * (i + 1) + k by omega]
  · show va_cpy (F 15) (F 17) 0 ((p' + d') % 41 * 44) 44 ((p' + d') % 41 * 44 + k) = F 15 k
    exact cpy_at hk
end
