section
variable {NF : Nat}
theorem nx_n {c : Nat → Nat} : ∀ (k p X j : Nat), (∀ i, i < k → lx_d (c (p + i)) = true) → X < 10 ^ j → j + k ≤ 6 → ∃ M, M < 10 ^ (j + k) ∧ nxF c k p (nI X) = nI M := by
  intro k
  induction k with
  | zero => intro p X j _ hX _; exact ⟨X, hX, rfl⟩
  | succ k ih =>
    intro p X j hd hX hj
    have hd0 := hd 0 (by omega)
    rw [Nat.add_zero] at hd0
    have hr : 48 ≤ c p ∧ c p ≤ 57 := by simpa [lx_d] using hd0
    have e : nI X * 10 + sb_b (c p) - 48 = nI (X * 10 + (c p - 48)) := by
      rw [cl_dn (c p) (by omega) hd0, show nI X * 10 = nI (X * 10) from pk_mul X 10, nI_add, show nI (X * 10 + c p) - 48 = nI (X * 10 + c p) - nI 48 from rfl, pk_sub (by omega)]
      congr 1
      omega
    have hX' : X * 10 + (c p - 48) < 10 ^ (j + 1) := by rw [Nat.pow_succ]; omega
    obtain ⟨M, h1, h2⟩ := ih (p + 1) (X * 10 + (c p - 48)) (j + 1) (fun i hi => by rw [show p + 1 + i = p + (i + 1) by omega]; exact hd (i + 1) (by omega)) hX' (by omega)
    exact ⟨M, by rw [show j + (k + 1) = j + 1 + k by omega]; exact h1, by show nxF c k (p + 1) (nI X * 10 + sb_b (c p) - 48) = _; rw [e]; exact h2⟩
theorem tok_num {c : Nat → Nat} {n p : Nat} (hc : ∀ k, k < n → c k < 256) (h : tK c n p = 2) : ∃ M, M < 10000 ∧ tN c n p = nI M := by
  have h' := h
  unfold tK at h
  by_cases e1 : n ≤ p
  · rw [if_pos e1] at h; exact absurd h (by decide)
  · rw [if_neg e1] at h
    by_cases hl : lx_l (c p) = true
    · rw [if_pos hl] at h
      by_cases h8 : 8 < tE c n p - p
      · rw [if_pos h8] at h; exact absurd h (by decide)
      · rw [if_neg h8] at h
        rcases lx_k_W c p (tE c n p - p) with q | q <;> omega
    · rw [if_neg hl] at h
      by_cases hd : lx_d (c p) = true
      · rw [if_pos hd] at h
        by_cases h4 : 4 < tE c n p - p ∨ (tE c n p < n ∧ lx_l (c (tE c n p)) = true)
        · rw [if_pos h4] at h; exact absurd h (by decide)
        · have hE : tE c n p = lx_c lx_d c n p := by unfold tE; rw [if_neg e1, if_neg hl, if_pos hd]
          obtain ⟨M, h1, h2⟩ := nx_n (c := c) (tE c n p - p) p 0 0 (fun i hi => (lx_cin (P := lx_d) (n := n) (p := p) (by omega) (show p + i < lx_c lx_d c n p by omega)).2) (by decide) (by omega)
          refine ⟨M, ?_, h2⟩
          have : 10 ^ (0 + (tE c n p - p)) ≤ 10 ^ 4 := Nat.pow_le_pow_right (by decide) (by omega)
          have : (10 : Nat) ^ 4 = 10000 := by decide
          omega
      · rw [if_neg hd] at h
        by_cases hs : lx_s (c p) = true
        · rw [if_pos hs] at h
          obtain ⟨_, _, _, s4, _⟩ := sgS (c p) (hc p (by omega)) hs
          exact absurd h s4
        · rw [if_neg hs] at h; exact absurd h (by decide)
def TP (c : Nat → Nat) (n i : Nat) (v : Nat → Int32) (f : Nat → Nat → Int32) (v1 : Nat → Int32) (f1 : Nat → Nat → Int32) (w1 : Int64) : Prop := TX c n v f ∧ TY c n v1 f1 ∧ CX c n i v ∧ CY c n i v1 w1 ∧ v1 1 = 0
def X4 (v v' : Nat → Int32) : Prop := ∀ k, k ≠ 2 → k ≠ 3 → k ≠ 4 → k ≠ 5 → v' k = v k
def Y4 (v v' : Nat → Int32) : Prop := ∀ k, k ≠ 3 → k ≠ 5 → k ≠ 6 → k ≠ 7 → v' k = v k
def X6 (v v' : Nat → Int32) : Prop := ∀ k, k ≠ 2 → k ≠ 3 → k ≠ 4 → k ≠ 5 → k ≠ 7 → k ≠ 8 → v' k = v k
def Y6 (v v' : Nat → Int32) : Prop := ∀ k, k ≠ 1 → k ≠ 2 → k ≠ 3 → k ≠ 5 → k ≠ 6 → k ≠ 7 → v' k = v k
def FP (c : Nat → Nat) (n : Nat) (v v' v1 v1' : Nat → Int32) : Prop := ∃ s j, 0 < s ∧ s < 100 ∧ v' 7 = nI s ∧ v1' 1 = nI s ∧ v' 8 = nI (tk_p c n j) ∧ v1' 2 = nI (tk_p c n j) ∧ X6 v v' ∧ Y6 v1 v1'
theorem X4.tr {a b d : Nat → Int32} (h : X4 a b) (k : X4 b d) : X4 a d := fun q q2 q3 q4 q5 => (k q q2 q3 q4 q5).trans (h q q2 q3 q4 q5)
theorem Y4.tr {a b d : Nat → Int32} (h : Y4 a b) (k : Y4 b d) : Y4 a d := fun q q2 q3 q4 q5 => (k q q2 q3 q4 q5).trans (h q q2 q3 q4 q5)
theorem FP.tr {c : Nat → Nat} {n : Nat} {v v' v'' v1 v1' v1'' : Nat → Int32} (h : X4 v v') (h1 : Y4 v1 v1') (k : FP c n v' v'' v1' v1'') : FP c n v v'' v1 v1'' := by
  obtain ⟨s, j, a, b, d, e, z, y, x1, y1⟩ := k
  exact ⟨s, j, a, b, d, e, z, y, fun q q2 q3 q4 q5 q7 q8 => (x1 q q2 q3 q4 q5 q7 q8).trans (h q q2 q3 q4 q5), fun q q1 q2 q3 q5 q6 q7 => (y1 q q1 q2 q3 q5 q6 q7).trans (h1 q q3 q5 q6 q7)⟩
section
variable {c : Nat → Nat} {n i : Nat} {v : Nat → Int32} {f : Nat → Nat → Int32} {v1 : Nat → Int32} {f1 : Nat → Nat → Int32} {w1 : Int64} {g : Nat → Int64}
theorem TP.adv (h : TP c n i v f v1 f1 w1) (hk : tk_k c n i ≠ 1) : ∃ v' v1' w1', gsX_X9_advance_1 NF v f = (v', f) ∧ gsY_X11_token_1 NF v1 f1 w1 g = (v1', f1, w1', g) ∧ TP c n (i + 1) v' f v1' f1 w1' ∧ X4 v v' ∧ Y4 v1 v1' := by
  obtain ⟨T, T1, C, C1, hf⟩ := h
  obtain ⟨v', e, a, b⟩ := advX (NF := NF) (i := i) T C.2.2.1
  obtain ⟨v1', w1', e1, a1, b1⟩ := tokY (NF := NF) (i := i) (w := w1) (g := g) T1 (C1.2.2.1 hk)
  exact ⟨v', v1', w1', e, e1, ⟨T.of (b 1 (by decide) (by decide) (by decide) (by decide)) rfl, T1.of (b1 4 (by decide) (by decide) (by decide) (by decide)) rfl, a, a1, (b1 1 (by decide) (by decide) (by decide) (by decide)).trans hf⟩, b, b1⟩
theorem TP.fail (hc : ∀ k, k < n → c k < 256) (h : TP c n i v f v1 f1 w1) {s : Nat} (h0 : 0 < s) (hs : s < 100) (hk : tk_k c n i ≠ 1 ∨ s = 2) : gsX_X6_refuseAs_1 NF (nI (if tk_k c n i = 1 then 1 else s)) v f = (0, upd (upd v 7 (nI (if tk_k c n i = 1 then 1 else s))) 8 (nI (tk_p c n i)), f) ∧ gsY_X11_wrong_1 NF (nI s) v1 f1 w1 g = (upd (upd v1 1 (nI (if tk_k c n i = 1 then 1 else s))) 2 (nI (tk_p c n i)), f1, w1, g) ∧ FP c n v (upd (upd v 7 (nI (if tk_k c n i = 1 then 1 else s))) 8 (nI (tk_p c n i))) v1 (upd (upd v1 1 (nI (if tk_k c n i = 1 then 1 else s))) 2 (nI (tk_p c n i))) := by
  obtain ⟨T, T1, C, C1, hf⟩ := h
  have hk' := tk_lt hc i
  refine ⟨?_, ?_, (if tk_k c n i = 1 then 1 else s), i, ?_, ?_, (pk_un (by decide)).trans pk_us, (pk_un (by decide)).trans pk_us, pk_us, pk_us, fun q q2 q3 q4 q5 q7 q8 => (pk_un q8).trans (pk_un q7), fun q q1 q2 q3 q5 q6 q7 => (pk_un q2).trans (pk_un q1)⟩
  · simp only [gsX_X6_refuseAs_1, C.2.1]
  · simp only [gsY_X11_wrong_1, hf, C1.1, C1.2.1]
    rw [if_pos (show (0 : Int32) ≤ 0 by decide)]
    by_cases e : tk_k c n i = 1
    · rw [if_pos ((tS3 _ hk').mpr e), if_pos e]; rfl
    · rw [if_neg (fun z => e ((tS3 _ hk').mp z)), if_neg e]
  · by_cases e : tk_k c n i = 1
    · rw [if_pos e]; decide
    · rw [if_neg e]; exact h0
  · by_cases e : tk_k c n i = 1
    · rw [if_pos e]; decide
    · rw [if_neg e]; exact hs
theorem xRef (hc : ∀ k, k < n → c k < 256) (C : CX c n i v) : gsX_X6_refuse_1 NF v f = gsX_X6_refuseAs_1 NF (nI (if tk_k c n i = 1 then 1 else 2)) v f := by
  have hk' := tk_lt hc i
  simp only [gsX_X6_refuse_1, gsX_X6_refuseAs_1, C.1, ite01]
  by_cases e : tk_k c n i = 1
  · rw [if_pos (by rw [e]; rfl), if_pos e]; rfl
  · rw [if_neg (nlit 1 1 rfl (by omega) (by decide) e), if_neg e]; rfl
theorem TP.ref (hc : ∀ k, k < n → c k < 256) (h : TP c n i v f v1 f1 w1) : ∃ v' v1', gsX_X6_refuse_1 NF v f = (0, v', f) ∧ gsY_X11_wrong_1 NF 2 v1 f1 w1 g = (v1', f1, w1, g) ∧ FP c n v v' v1 v1' ∧ (∃ s, 0 < s ∧ s < 100 ∧ v1' 1 = nI s) := by
  obtain ⟨a, b, d⟩ := TP.fail (NF := NF) (g := g) hc h (s := 2) (by decide) (by decide) (Or.inr rfl)
  refine ⟨_, _, (xRef hc h.2.2.1).trans a, b, d, ?_⟩
  obtain ⟨s, j, h1, h2, h3, h4, _⟩ := d
  exact ⟨s, h1, h2, h4⟩
theorem numPair (hc : ∀ k, k < n → c k < 256) (h : TP c n i v f v1 f1 w1) (mo : Int32) : (∃ (v' v1' : Nat → Int32) (w1' : Int64) (x : Int32), gsX_X6_numbered_1 NF mo v f = (x, v', f) ∧ gsY_X11_toldNumber_1 NF 0 mo v1 f1 w1 g = (x, v1', f1, w1', g) ∧ TP c n (i + 1) v' f v1' f1 w1' ∧ (0 ≤ x ∧ x ≤ mo) ∧ X4 v v' ∧ Y4 v1 v1') ∨ (∃ (v' v1' : Nat → Int32) (w1' : Int64) (y : Int32), gsX_X6_numbered_1 NF mo v f = (-1, v', f) ∧ gsY_X11_toldNumber_1 NF 0 mo v1 f1 w1 g = (y, v1', f1, w1', g) ∧ FP c n v v' v1 v1') := by
  have hk := tk_lt hc i
  obtain ⟨T, T1, C, C1, hf⟩ := h
  obtain ⟨t40, t2, _, _, _⟩ := tS40 _ hk
  simp only [gsX_X6_numbered_1, gsY_X11_toldNumber_1, C.1, C1.2.1, hf]
  rw [if_pos (show (0 : Int32) ≤ 0 by decide)]
  by_cases e2 : tk_k c n i = 2
  · obtain ⟨M, hM, hN⟩ := tok_num hc (show tK c n (tk_p c n i) = 2 from e2)
    have e5 : v 5 = nI M := (C.2.2.2 e2).trans hN
    have e7 : v1 7 = nI M := (C1.2.2.2.1 e2).trans hN
    rw [if_pos (by rw [e2]; rfl), if_pos (t2.mpr e2), e5, e7, if_neg (nI_pos (by omega))]
    by_cases hm : nI M ≤ mo
    · obtain ⟨v', v1', w1', a1, a2, a3, a4, a5⟩ := TP.adv (NF := NF) (g := g) ⟨T, T1, C, C1, hf⟩ (by omega)
      rw [if_pos hm, if_pos hm, if_pos trivial, a1, a2]
      exact Or.inl ⟨v', v1', w1', nI M, rfl, rfl, a3, ⟨nI_pos' (by omega), hm⟩, a4, a5⟩
    · obtain ⟨a, b, d⟩ := TP.fail (NF := NF) (g := g) hc ⟨T, T1, C, C1, hf⟩ (s := 4) (by decide) (by decide) (Or.inl (by omega))
      rw [if_neg (show ¬ tk_k c n i = 1 by omega)] at a b d
      have a : gsX_X6_refuseAs_1 NF 4 v f = _ := a
      have b : gsY_X11_wrong_1 NF 4 v1 f1 w1 g = _ := b
      rw [if_neg hm, if_neg hm, a, b]
      refine Or.inr ⟨_, _, w1, upd (upd v1 1 (nI 4)) 2 (nI (tk_p c n i)) 7, rfl, ?_, d⟩
      show (if upd (upd v1 1 (nI 4)) 2 (nI (tk_p c n i)) 1 = 0 then _ else _) = _
      rw [pk_un (show (1 : Nat) ≠ 2 by decide), pk_us, if_neg (show ¬ nI 4 = 0 by decide)]
  · obtain ⟨v', v1', a, b, d, s, s0, s1, s2⟩ := TP.ref (NF := NF) (g := g) hc ⟨T, T1, C, C1, hf⟩
    rw [if_neg (nlit 2 2 rfl (by omega) (by decide) e2), if_neg (fun z => e2 (t2.mp z)), a, b]
    refine Or.inr ⟨v', v1', w1, v1' 7, rfl, ?_, d⟩
    show (if v1' 1 = 0 then _ else _) = _
    rw [s2, if_neg (nI_ne0 s0 (by omega))]
theorem told_f {j : Int64} {mo : Int32} {s : Nat} (h1 : v1 1 = nI s) (h0 : 0 < s) (hs : s < 100) : gsY_X11_told_1 NF j mo v1 f1 w1 g = (0, v1, f1, w1, g) := by
  simp only [gsY_X11_told_1, gsY_X11_want_1, gsY_X11_toldNumber_1, h1]
  rw [if_neg (nI_nle h0 (by omega))]
  simp only [h1]
  rw [if_neg (nI_nle h0 (by omega))]
theorem labPair (hc : ∀ k, k < n → c k < 256) (h : TP c n i v f v1 f1 w1) {k : Nat} (hk1 : 101 ≤ k) (hk2 : k ≤ 121) {j : Int64} (hj : j = wC k) (mo : Int32) : (∃ (v' v1' : Nat → Int32) (w1' : Int64) (x : Int32), gsX_X6_labelled_1 NF (nI k) mo v f = (x, v', f) ∧ gsY_X11_told_1 NF j mo v1 f1 w1 g = (x, v1', f1, w1', g) ∧ TP c n (i + 2) v' f v1' f1 w1' ∧ (0 ≤ x ∧ x ≤ mo) ∧ X4 v v' ∧ Y4 v1 v1') ∨ (∃ (v' v1' : Nat → Int32) (w1' : Int64) (y : Int32), gsX_X6_labelled_1 NF (nI k) mo v f = (-1, v', f) ∧ gsY_X11_told_1 NF j mo v1 f1 w1 g = (y, v1', f1, w1', g) ∧ FP c n v v' v1 v1') := by
  have hk := tk_lt hc i
  have h' := h
  obtain ⟨T, T1, C, C1, hf⟩ := h
  by_cases e : tk_k c n i = k
  · obtain ⟨v', v1', w1', a1, a2, a3, a4, a5⟩ := TP.adv (NF := NF) (g := g) h' (by omega)
    have eL : gsX_X6_labelled_1 NF (nI k) mo v f = gsX_X6_numbered_1 NF mo v' f := by
      simp only [gsX_X6_labelled_1, C.1]
      rw [if_pos (by rw [e]), a1]
    have eT : gsY_X11_told_1 NF j mo v1 f1 w1 g = gsY_X11_toldNumber_1 NF 0 mo v1' f1 w1' g := by
      simp only [gsY_X11_told_1, gsY_X11_want_1, hf, yIsW hc C1 hk1 hk2 hj]
      rw [if_pos (show (0 : Int32) ≤ 0 by decide), if_pos e, ite11, a2]
    rw [eL, eT]
    rcases numPair (NF := NF) (g := g) hc a3 mo with ⟨v2, v3, w3, x, b1, b2, b3, b4, b5, b6⟩ | ⟨v2, v3, w3, y, b1, b2, b3⟩
    · exact Or.inl ⟨v2, v3, w3, x, b1, b2, b3, b4, a4.tr b5, a5.tr b6⟩
    · exact Or.inr ⟨v2, v3, w3, y, b1, b2, b3.tr a4 a5⟩
  · obtain ⟨v', v1', a, b, d, s, s0, s1, s2⟩ := TP.ref (NF := NF) (g := g) hc h'
    have eL : gsX_X6_labelled_1 NF (nI k) mo v f = (-1, v', f) := by
      simp only [gsX_X6_labelled_1, C.1]
      rw [if_neg (fun z => e ((nI_eq (by omega) (by omega)).mp z)), a]
      exact ite01
    have eT : gsY_X11_told_1 NF j mo v1 f1 w1 g = (0, v1', f1, w1, g) := by
      simp only [gsY_X11_told_1, gsY_X11_want_1, hf, yIsW hc C1 hk1 hk2 hj]
      rw [if_pos (show (0 : Int32) ≤ 0 by decide), if_neg e, ite01, b]
      simp only [gsY_X11_toldNumber_1, s2]
      rw [if_neg (nI_nle s0 (by omega))]
    exact Or.inr ⟨v', v1', w1, 0, eL, eT, d⟩
end
end
