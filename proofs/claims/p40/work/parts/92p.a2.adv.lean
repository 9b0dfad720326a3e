section
variable {NF : Nat}
theorem xL9 {c : Nat → Nat} {n : Nat} {v : Nat → Int32} {f : Nat → Nat → Int32} (hv : v 1 = nI n) : ∀ (fu pos : Nat) (v9 : Nat → Int32), TX c n v9 f → v9 4 = nI pos → pos ≤ n → n - pos < fu → ∃ v', (∀ k, k ≠ 4 → v' k = v9 k) ∧ v' 4 = nI (lx_c lx_l c n pos) ∧ gsX_X9_advance_1_L9 NF v fu v9 f = gsX_X9_advance_1_J10 NF f v' := by
  intro fu
  induction fu with
  | zero => intro pos v9 _ _ _ h; exact absurd h (Nat.not_lt_zero _)
  | succ fu ih =>
    intro pos v9 T h4 hpn hm
    have hn := T.2.1
    by_cases h : pos < n ∧ lx_l (c pos) = true
    · obtain ⟨v', a, b, e⟩ := ih (pos + 1) (upd v9 4 (nI (pos + 1))) (T.upd (by decide)) pk_us (by omega) (by omega)
      refine ⟨v', fun k hk => (a k hk).trans (pk_un hk), by rw [lx_cs h.1 h.2]; exact b, ?_⟩
      simp only [gsX_X9_advance_1_L9, hv, h4]
      rw [if_neg (nI_ge h.1 (by omega)), xLet T (by omega), if_pos h, ite11, nI_1]
      exact e
    · refine ⟨v9, fun k _ => rfl, by rw [lx_c0 h]; exact h4, ?_⟩
      simp only [gsX_X9_advance_1_L9, hv, h4]
      by_cases h2 : pos < n
      · rw [if_neg (nI_ge h2 (by omega)), xLet T (by omega), if_neg h, ite01]
      · rw [if_pos (nI_le (by omega) (by omega))]
theorem xL27 {c : Nat → Nat} {n : Nat} {v : Nat → Int32} {f : Nat → Nat → Int32} (hv : v 1 = nI n) : ∀ (fu pos : Nat) (v9 : Nat → Int32), TX c n v9 f → v9 4 = nI pos → pos ≤ n → n - pos < fu → ∃ v', (∀ k, k ≠ 4 → k ≠ 5 → v' k = v9 k) ∧ v' 4 = nI (lx_c lx_d c n pos) ∧ v' 5 = nxF c (lx_c lx_d c n pos - pos) pos (v9 5) ∧ gsX_X9_advance_1_L27 NF v fu v9 f = gsX_X9_advance_1_J28 NF f v' := by
  intro fu
  induction fu with
  | zero => intro pos v9 _ _ _ h; exact absurd h (Nat.not_lt_zero _)
  | succ fu ih =>
    intro pos v9 T h4 hpn hm
    have hn := T.2.1
    by_cases h : pos < n ∧ lx_d (c pos) = true
    · obtain ⟨v', a, b, d, e⟩ := ih (pos + 1) (upd (upd v9 5 (v9 5 * 10 + sb_b (c pos) - 48)) 4 (nI (pos + 1))) ((T.upd (by decide)).upd (by decide)) pk_us (by omega) (by omega)
      have hg := lx_cge lx_d c n (pos + 1)
      refine ⟨v', fun k hk hk5 => (a k hk hk5).trans ((pk_un hk).trans (pk_un hk5)), by rw [lx_cs h.1 h.2]; exact b, ?_, ?_⟩
      · rw [lx_cs h.1 h.2, d, show lx_c lx_d c n (pos + 1) - pos = (lx_c lx_d c n (pos + 1) - (pos + 1)) + 1 by omega]
        rw [pk_un (show (5 : Nat) ≠ 4 by decide), pk_us]
        rfl
      · simp only [gsX_X9_advance_1_L27, hv, h4]
        rw [if_neg (nI_ge h.1 (by omega)), xDig T (by omega), if_pos h, ite11, nI_1, nI_clamp (by omega), (T.2.2 pos h.1).2]
        exact e
    · refine ⟨v9, fun k _ _ => rfl, by rw [lx_c0 h]; exact h4, by rw [lx_c0 h, Nat.sub_self]; rfl, ?_⟩
      simp only [gsX_X9_advance_1_L27, hv, h4]
      by_cases h2 : pos < n
      · rw [if_neg (nI_ge h2 (by omega)), xDig T (by omega), if_neg h, ite01]
      · rw [if_pos (nI_le (by omega) (by omega))]
theorem xL1 {c : Nat → Nat} {n : Nat} {v : Nat → Int32} {f : Nat → Nat → Int32} (hv : v 1 = nI n) : ∀ (fu pos : Nat) (v9 : Nat → Int32), TX c n v9 f → v9 3 = nI pos → pos ≤ n → n - pos < fu → ∃ v', (∀ k, k ≠ 3 → v' k = v9 k) ∧ v' 3 = nI (lx_c lx_b c n pos) ∧ gsX_X9_advance_1_L1 NF v fu v9 f = gsX_X9_advance_1_J2 NF v f v' := by
  intro fu
  induction fu with
  | zero => intro pos v9 _ _ _ h; exact absurd h (Nat.not_lt_zero _)
  | succ fu ih =>
    intro pos v9 T h4 hpn hm
    have hn := T.2.1
    by_cases h2 : pos < n
    · obtain ⟨b1, b2, b3⟩ := cl_b (c pos) (T.2.2 pos h2).1
      by_cases h : lx_b (c pos) = true
      · obtain ⟨v', a, b, e⟩ := ih (pos + 1) (upd v9 3 (nI (pos + 1))) (T.upd (by decide)) pk_us (by omega) (by omega)
        refine ⟨v', fun k hk => (a k hk).trans (pk_un hk), by rw [lx_cs h2 h]; exact b, ?_⟩
        simp only [gsX_X9_advance_1_L1, hv, h4, nI_1]
        rw [if_neg (nI_ge h2 (by omega)), nI_clamp (by omega), (T.2.2 pos h2).2]
        rcases b3.mp h with q | q
        · rw [if_pos (b1.mpr q)]; exact e
        · by_cases q2 : sb_b (c pos) = 32
          · rw [if_pos q2]; exact e
          · rw [if_neg q2, if_pos (b2.mpr q)]; exact e
      · refine ⟨v9, fun k _ => rfl, by rw [lx_c0 (fun z => h z.2)]; exact h4, ?_⟩
        simp only [gsX_X9_advance_1_L1, hv, h4, nI_1]
        rw [if_neg (nI_ge h2 (by omega)), nI_clamp (by omega), (T.2.2 pos h2).2, if_neg (fun z => h (b3.mpr (Or.inl (b1.mp z)))), if_neg (fun z => h (b3.mpr (Or.inr (b2.mp z))))]
    · refine ⟨v9, fun k _ => rfl, by rw [lx_c0 (fun z => h2 z.1)]; exact h4, ?_⟩
      simp only [gsX_X9_advance_1_L1, hv, h4]
      rw [if_pos (nI_le (by omega) (by omega))]
theorem ixL {t : Int32} : ∀ (fu k : Nat), k ≤ 11 → 11 - k < fu → (gsX_J1_indexOfChar_4cfef_1_L2 NF 11 t fu (nI k) < 0 ↔ ∀ j, k ≤ j → j < 11 → ¬ (sBYT.getD 0 []).getD j 0 = t) := by
  intro fu
  induction fu with
  | zero => intro k _ h; exact absurd h (Nat.not_lt_zero _)
  | succ fu ih =>
    intro k hk hf
    simp only [gsX_J1_indexOfChar_4cfef_1_L2]
    by_cases h : k < 11
    · rw [if_neg (show ¬ (11 : Int32) ≤ nI k from nI_ge (b := 11) h (by omega)), nI_clamp (by omega), nI_1]
      by_cases e : (sBYT.getD 0 []).getD k 0 = t
      · rw [if_pos e]
        exact ⟨fun z => absurd z (nI_pos (by omega)), fun z => absurd e (z k (Nat.le_refl _) h)⟩
      · rw [if_neg e, ih (k + 1) (by omega) (by omega)]
        constructor
        · intro z j h1 h2
          by_cases q : j = k
          · rw [q]; exact e
          · exact z j (by omega) h2
        · intro z j h1 h2
          exact z j (by omega) h2
    · rw [if_pos (show (11 : Int32) ≤ nI k from nI_le (a := 11) (by omega) (by omega))]
      exact ⟨fun _ j h1 h2 => absurd h2 (by omega), fun _ => by decide⟩
theorem gix1 : ∀ c, c < 256 → (lx_s c = true ↔ ∃ j, j < 11 ∧ (sBYT.getD 0 []).getD j 0 = (nI c).toInt8.toInt32) := by decide +kernel
theorem gix2 : ∀ c, c < 256 → gsX_J1_canEncode_9a6ad_1 0 (nI c) zV zVV = 1 := by decide +kernel
theorem gix {v : Nat → Int32} {f : Nat → Nat → Int32} {c : Nat} (h : c < 256) : gsX_J0_indexOf_0f7a4_1 NF (nI c) v f < 0 ↔ ¬ lx_s c = true := by
  have e : gsX_J0_indexOf_0f7a4_1 NF (nI c) v f = gsX_J1_indexOfChar_4cfef_1_L2 NF 11 (nI c).toInt8.toInt32 (4294967296 + NF) (nI 0) := by
    show (if gsX_J1_canEncode_9a6ad_1 NF (nI c) v f = 1 then _ else _) = _
    rw [show gsX_J1_canEncode_9a6ad_1 NF (nI c) v f = 1 from gix2 c h, if_pos rfl]
    rfl
  rw [e, ixL (4294967296 + NF) 0 (by decide) (by omega), gix1 c h]
  constructor
  · rintro z ⟨j, h1, h2⟩
    exact z j (Nat.zero_le _) h1 h2
  · intro z j _ h1 h2
    exact z ⟨j, h1, h2⟩
def ADV (c : Nat → Nat) (n p : Nat) (v v' : Nat → Int32) : Prop := (∀ k, k ≠ 2 → k ≠ 3 → k ≠ 4 → k ≠ 5 → v' k = v k) ∧ v' 2 = nI (tK c n p) ∧ v' 3 = nI p ∧ v' 4 = nI (tE c n p) ∧ (tK c n p = 2 → v' 5 = tN c n p)
theorem xJ2 {c : Nat → Nat} {n : Nat} {v v1 : Nat → Int32} {f : Nat → Nat → Int32} (hv : v 1 = nI n) (T : TX c n v1 f) {p : Nat} (h3 : v1 3 = nI p) (hpn : p ≤ n) : ∃ v', gsX_X9_advance_1_J2 NF v f v1 = (v', f) ∧ ADV c n p v1 v' := by
  have hn := T.2.1
  simp only [gsX_X9_advance_1_J2, hv, h3]
  by_cases hp : p < n
  · rw [if_pos (nI_lt hp (by omega)), xLet (T.upd (by decide)) (by omega)]
    have hcp := T.2.2 p hp
    have hnp : ¬ n ≤ p := by omega
    by_cases hl : lx_l (c p) = true
    · rw [if_pos (And.intro hp hl), ite11]
      obtain ⟨v', a, b, e⟩ := xL9 hv (4294967296 + NF) p (upd v1 4 (nI p)) (T.upd (by decide)) pk_us hpn (by omega)
      have hE : tE c n p = lx_c lx_l c n p := by unfold tE; rw [if_neg hnp, if_pos hl]
      have hg := lx_cge lx_l c n p
      have hle := lx_cle lx_l c hpn
      have a3 : v' 3 = nI p := (a 3 (by decide)).trans ((pk_un (by decide)).trans h3)
      have T' : TX c n v' f := (T.upd (k := 4) (x := nI p) (by decide)).of (a 1 (by decide)) rfl
      rw [e]
      simp only [gsX_X9_advance_1_J10, b, a3, pk_sub hg]
      by_cases h8 : 8 < lx_c lx_l c n p - p
      · rw [if_neg (show ¬ nI (lx_c lx_l c n p - p) ≤ (8 : Int32) from nI_ge (a := 8) h8 (by omega))]
        refine ⟨_, rfl, fun k k2 k3 k4 k5 => (pk_un k2).trans ((a k k4).trans (pk_un k4)), ?_, (pk_un (by decide)).trans a3, (pk_un (by decide)).trans (by rw [b, hE]), ?_⟩
        · rw [pk_us]; unfold tK; rw [if_neg hnp, if_pos hl, hE, if_pos h8]; rfl
        · intro z; exfalso; revert z; unfold tK; rw [if_neg hnp, if_pos hl, hE, if_pos h8]; decide
      · rw [if_pos (show nI (lx_c lx_l c n p - p) ≤ (8 : Int32) from nI_le (b := 8) (by omega) (by omega)), xWK T' a3 b hg hle]
        refine ⟨_, rfl, fun k k2 k3 k4 k5 => (pk_un k2).trans ((a k k4).trans (pk_un k4)), ?_, (pk_un (by decide)).trans a3, (pk_un (by decide)).trans (by rw [b, hE]), ?_⟩
        · rw [pk_us]; unfold tK; rw [if_neg hnp, if_pos hl, hE, if_neg h8]
        · intro z; exfalso; revert z; unfold tK; rw [if_neg hnp, if_pos hl, hE, if_neg h8]; intro z; rcases lx_k_W c p (lx_c lx_l c n p - p) with q | q <;> omega
    · rw [if_neg (show ¬ (p < n ∧ lx_l (c p) = true) from fun z => hl z.2), ite01, xDig (T.upd (by decide)) (by omega)]
      by_cases hd : lx_d (c p) = true
      · rw [if_pos (And.intro hp hd), ite11]
        obtain ⟨v', a, b, d, e⟩ := xL27 hv (4294967296 + NF) p (upd (upd v1 4 (nI p)) 5 0) ((T.upd (by decide)).upd (by decide)) ((pk_un (by decide)).trans pk_us) hpn (by omega)
        have hE : tE c n p = lx_c lx_d c n p := by unfold tE; rw [if_neg hnp, if_neg hl, if_pos hd]
        have hg := lx_cge lx_d c n p
        have hle := lx_cle lx_d c hpn
        have a3 : v' 3 = nI p := (a 3 (by decide) (by decide)).trans ((pk_un (by decide)).trans ((pk_un (by decide)).trans h3))
        have T' : TX c n v' f := ((T.upd (k := 4) (x := nI p) (by decide)).upd (k := 5) (x := 0) (by decide)).of (a 1 (by decide) (by decide)) rfl
        have hK : tK c n p = if 4 < lx_c lx_d c n p - p ∨ (lx_c lx_d c n p < n ∧ lx_l (c (lx_c lx_d c n p)) = true) then 1 else 2 := by unfold tK; rw [if_neg hnp, if_neg hl, if_pos hd, hE]
        have d5 : v' 5 = tN c n p := by rw [d, pk_us]; unfold tN; rw [hE]
        rw [e]
        simp only [gsX_X9_advance_1_J28, b, a3, pk_sub hg, xLet T' (show lx_c lx_d c n p < 2 ^ 31 by omega)]
        have fr : ∀ (x : Int32) k, k ≠ 2 → k ≠ 3 → k ≠ 4 → k ≠ 5 → upd v' 2 x k = v1 k := fun x k k2 k3 k4 k5 => (pk_un k2).trans ((a k k4 k5).trans ((pk_un k5).trans (pk_un k4)))
        by_cases h4 : 4 < lx_c lx_d c n p - p
        · rw [if_pos (show (4 : Int32) < nI (lx_c lx_d c n p - p) from nI_lt (a := 4) h4 (by omega))]
          refine ⟨_, rfl, fr _, ?_, (pk_un (by decide)).trans a3, (pk_un (by decide)).trans (by rw [b, hE]), fun _ => (pk_un (by decide)).trans d5⟩
          rw [pk_us, hK, if_pos (Or.inl h4)]; rfl
        · rw [if_neg (show ¬ (4 : Int32) < nI (lx_c lx_d c n p - p) from nI_nlt (a := 4) (by omega) (by omega))]
          by_cases h5 : lx_c lx_d c n p < n ∧ lx_l (c (lx_c lx_d c n p)) = true
          · rw [if_pos h5, ite11]
            refine ⟨_, rfl, fr _, ?_, (pk_un (by decide)).trans a3, (pk_un (by decide)).trans (by rw [b, hE]), fun _ => (pk_un (by decide)).trans d5⟩
            rw [pk_us, hK, if_pos (Or.inr h5)]; rfl
          · rw [if_neg h5, ite01]
            refine ⟨_, rfl, fr _, ?_, (pk_un (by decide)).trans a3, (pk_un (by decide)).trans (by rw [b, hE]), fun _ => (pk_un (by decide)).trans d5⟩
            rw [pk_us, hK, if_neg (fun z => z.elim h4 h5)]; rfl
      · rw [if_neg (show ¬ (p < n ∧ lx_d (c p) = true) from fun z => hd z.2), ite01, nI_clamp (by omega), hcp.2, (sb_byte _ hcp.1).1, (sb_byte _ hcp.1).2.1]
        have hE : tE c n p = p + 1 := by unfold tE; rw [if_neg hnp, if_neg hl, if_neg hd]
        have hK : tK c n p = if lx_s (c p) = true then c p else 1 := by unfold tK; rw [if_neg hnp, if_neg hl, if_neg hd]
        have fr : ∀ (x y : Int32) k, k ≠ 2 → k ≠ 3 → k ≠ 4 → k ≠ 5 → upd (upd (upd v1 4 (nI p)) 4 y) 2 x k = v1 k := fun x y k k2 k3 k4 k5 => (pk_un k2).trans ((pk_un k4).trans (pk_un k4))
        have n2 : ∀ x, x < 256 → (if lx_s x = true then x else 1) ≠ 2 := by decide +kernel
        by_cases hs : lx_s (c p) = true
        · rw [if_neg (fun z => (gix hcp.1).mp z hs)]
          refine ⟨_, rfl, fr _ _, ?_, (pk_un (by decide)).trans ((pk_un (by decide)).trans ((pk_un (by decide)).trans h3)), (pk_un (by decide)).trans (by rw [pk_us, hE, nI_1]), fun z => absurd (hK.symm.trans z) (n2 _ hcp.1)⟩
          rw [pk_us, hK, if_pos hs, cl_s _ hcp.1 hs]
        · rw [if_pos ((gix hcp.1).mpr hs)]
          refine ⟨_, rfl, fr _ _, ?_, (pk_un (by decide)).trans ((pk_un (by decide)).trans ((pk_un (by decide)).trans h3)), (pk_un (by decide)).trans (by rw [pk_us, hE, nI_1]), fun z => absurd (hK.symm.trans z) (n2 _ hcp.1)⟩
          rw [pk_us, hK, if_neg hs]; rfl
  · have e1 : n ≤ p := by omega
    rw [if_neg (nI_nlt e1 (by omega))]
    have hE : tE c n p = p := by unfold tE; rw [if_pos e1]
    have hK : tK c n p = 0 := by unfold tK; rw [if_pos e1]
    refine ⟨_, rfl, fun k k2 k3 k4 k5 => (pk_un k2).trans (pk_un k4), ?_, (pk_un (by decide)).trans ((pk_un (by decide)).trans h3), (pk_un (by decide)).trans (by rw [pk_us, hE]), fun z => absurd (hK.symm.trans z) (by decide)⟩
    rw [pk_us, hK]; rfl
theorem xAdv {c : Nat → Nat} {n : Nat} {v : Nat → Int32} {f : Nat → Nat → Int32} (T : TX c n v f) {b : Nat} (h4 : v 4 = nI b) (hb : b ≤ n) : ∃ v', gsX_X9_advance_1 NF v f = (v', f) ∧ ADV c n (tP c n b) v v' := by
  have hn := T.2.1
  unfold gsX_X9_advance_1
  obtain ⟨v1, a, e3, e⟩ := xL1 T.1 (4294967296 + NF) b (upd v 3 (v 4)) (T.upd (by decide)) (pk_us.trans h4) hb (by omega)
  have T1 : TX c n v1 f := (T.upd (k := 3) (x := v 4) (by decide)).of (a 1 (by decide)) rfl
  obtain ⟨v', q1, q2, q3⟩ := xJ2 T.1 T1 e3 (lx_cle lx_b c hb)
  exact ⟨v', e.trans q1, fun k k2 k3 k4 k5 => (q2 k k2 k3 k4 k5).trans ((a k k3).trans (pk_un k3)), q3⟩
end
