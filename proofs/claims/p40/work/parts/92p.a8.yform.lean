section
variable {NF : Nat}
def eS (k : Nat) : Nat := if k = 115 then 21 else if k = 40 then 20 else if k = 114 then 38 else if k = 113 then 124 else k
def eA (k : Nat) : Nat := if k = 2 then 0 else if 116 ≤ k ∧ k ≤ 121 then 1 else if k = 115 then 2 else 3
def eB (k : Nat) (x : Int32) : Int32 := if k = 2 then x else if 116 ≤ k ∧ k ≤ 121 then nI (k - 116) else if k = 115 then 0 else nI (eS k)
def vS (a : Nat) : Bool := a == 115 || a == 40 || fSg a
theorem vS_f : ∀ a, a < 256 → vS a = true → (eS a = 20 ↔ a = 40) ∧ (eS a = 21 ↔ a = 115) ∧ eS a < 256 ∧ (a ≠ 40 → gsY_X11_tight_1 0 (nI (eS a)) zV zVV 0 (fun _ => 0) = nI (fTg a)) := by decide +kernel
theorem vS_lt {a : Nat} (h : vS a = true) : a < 256 := by
  by_cases e : a < 256
  · exact e
  · exfalso
    simp [vS, fSg] at h
    omega
theorem yTight {a : Nat} {v : Nat → Int32} {f : Nat → Nat → Int32} {w : Int64} {g : Nat → Int64} (h : vS a = true) (h40 : a ≠ 40) : gsY_X11_tight_1 NF (nI (eS a)) v f w g = nI (fTg a) := (show gsY_X11_tight_1 NF (nI (eS a)) v f w g = gsY_X11_tight_1 0 (nI (eS a)) zV zVV 0 (fun _ => 0) from rfl).trans ((vS_f a (vS_lt h) h).2.2.2 h40)
theorem fTg_lt (a : Nat) : fTg a ≤ 6 := by
  unfold fTg
  repeat' split
  all_goals omega
def STY : List Nat → (Nat → Nat → Int32) → Prop
  | [], _ => True
  | a :: l, f => f 6 l.length = nI (eS a) ∧ vS a = true ∧ STY l f
theorem STY.of {f f' : Nat → Nat → Int32} : ∀ {st : List Nat}, STY st f → (∀ j, j < st.length → f' 6 j = f 6 j) → STY st f' := by
  intro st
  induction st with
  | nil => intro _ _; trivial
  | cons a l ih =>
    intro h hf
    exact ⟨(hf l.length (by simp)).trans h.1, h.2.1, ih h.2.2 (fun j hj => hf j (by simp; omega))⟩
def OUTY (out : List (Nat × Int32)) (f : Nat → Nat → Int32) : Prop := ∀ j, j < out.length → f 2 j = nI (eA (out.getD j (0, 0)).1) ∧ f 3 j = eB (out.getD j (0, 0)).1 (out.getD j (0, 0)).2
def YR (c : Nat → Nat) (n : Nat) (v0 : Nat → Int32) (f0 : Nat → Nat → Int32) (v : Nat → Int32) (f : Nat → Nat → Int32) (w : Int64) (i : Nat) (out : List (Nat × Int32)) (st : List Nat) (own : Nat) : Prop := CY c n i v w ∧ (∀ k, k ≠ 3 → k ≠ 5 → k ≠ 6 → k ≠ 7 → k ≠ 8 → k ≠ 10 → k ≠ 11 → k ≠ 13 → k ≠ 14 → v k = v0 k) ∧ (∀ q, q ≠ 2 → q ≠ 3 → q ≠ 6 → f q = f0 q) ∧ v 8 = nI out.length ∧ v 10 = nI st.length ∧ v 11 = nI own ∧ v 13 = nI own ∧ v 14 = nI (fDp st) ∧ OUTY out f ∧ STY st f
def YF (c : Nat → Nat) (n : Nat) (v0 : Nat → Int32) (f0 : Nat → Nat → Int32) (v : Nat → Int32) (f : Nat → Nat → Int32) (s j : Nat) : Prop := v 1 = nI s ∧ v 2 = nI (tk_p c n j) ∧ (∀ k, k ≠ 1 → k ≠ 2 → k ≠ 3 → k ≠ 5 → k ≠ 6 → k ≠ 7 → k ≠ 8 → k ≠ 10 → k ≠ 11 → k ≠ 13 → k ≠ 14 → v k = v0 k) ∧ (∀ q, q ≠ 2 → q ≠ 3 → q ≠ 6 → f q = f0 q)
section
variable {c : Nat → Nat} {n : Nat} {v0 : Nat → Int32} {f0 : Nat → Nat → Int32} {v : Nat → Int32} {f : Nat → Nat → Int32} {w : Int64} {g : Nat → Int64} {i own : Nat} {out : List (Nat × Int32)} {st : List Nat}
theorem YR.f1 (h : YR c n v0 f0 v f w i out st own) (h0 : v0 1 = 0) : v 1 = 0 := (h.2.1 1 (by decide) (by decide) (by decide) (by decide) (by decide) (by decide) (by decide) (by decide) (by decide)).trans h0
theorem YR.t (T : TY c n v0 f0) (h : YR c n v0 f0 v f w i out st own) : TY c n v f := T.of (h.2.1 4 (by decide) (by decide) (by decide) (by decide) (by decide) (by decide) (by decide) (by decide) (by decide)) (h.2.2.1 0 (by decide) (by decide) (by decide))
theorem YR.tok (T : TY c n v0 f0) (h : YR c n v0 f0 v f w i out st own) (h1 : tk_k c n i ≠ 1) : ∃ v' w', gsY_X11_token_1 NF v f w g = (v', f, w', g) ∧ YR c n v0 f0 v' f w' (i + 1) out st own := by
  obtain ⟨v', w', e, a, b⟩ := tokY (NF := NF) (i := i) (w := w) (g := g) (YR.t T h) (h.1.2.2.1 h1)
  obtain ⟨_, h2, h3, h8, h10, h11, h13, h14, h15, h16⟩ := h
  exact ⟨v', w', e, a, fun k k3 k5 k6 k7 k8 k10 k11 k13 k14 => (b k k3 k5 k6 k7).trans (h2 k k3 k5 k6 k7 k8 k10 k11 k13 k14), h3, (b 8 (by decide) (by decide) (by decide) (by decide)).trans h8, (b 10 (by decide) (by decide) (by decide) (by decide)).trans h10, (b 11 (by decide) (by decide) (by decide) (by decide)).trans h11, (b 13 (by decide) (by decide) (by decide) (by decide)).trans h13, (b 14 (by decide) (by decide) (by decide) (by decide)).trans h14, h15, h16⟩
theorem tS3 : ∀ k, k < 256 → (nI (tS k) = 3 ↔ k = 1) := by decide +kernel
theorem YR.wrong (hc : ∀ k, k < n → c k < 256) (h0 : v0 1 = 0) (h : YR c n v0 f0 v f w i out st own) : gsY_X11_wrong_1 NF 2 v f w g = (upd (upd v 1 (nI (fFl (tk_k c n i)))) 2 (nI (tk_p c n i)), f, w, g) := by
  have hk := tk_lt hc i
  simp only [gsY_X11_wrong_1, YR.f1 h h0, h.1.1, h.1.2.1]
  rw [if_pos (show (0 : Int32) ≤ 0 by decide)]
  unfold fFl
  by_cases e : tk_k c n i = 1
  · rw [if_pos ((tS3 _ hk).mpr e), if_pos e]; rfl
  · rw [if_neg (fun z => e ((tS3 _ hk).mp z)), if_neg e]; rfl
theorem YR.add {k : Nat} {x : Int32} {a : Nat} {y : Int32} (ha : a = eA k) (hy : y = eB k x) (hl : out.length < 1000) (h : YR c n v0 f0 v f w i out st own) : ∃ v' f', gsY_X11_add_1 NF (nI a) y v f w g = (v', f', w, g) ∧ YR c n v0 f0 v' f' w i (out ++ [(k, x)]) st own ∧ (∀ j, j ≠ 8 → v' j = v j) ∧ f' 6 = f 6 := by
  subst ha hy
  obtain ⟨⟨c1, c2, c3, c4, c5⟩, h2, h3, h8, h10, h11, h13, h14, h15, h16⟩ := h
  refine ⟨upd v 8 (nI (out.length + 1)), upd2 (upd2 f 2 (upd (f 2) out.length (nI (eA k)))) 3 (upd (f 3) out.length (eB k x)), ?_, ⟨⟨(pk_un (by decide)).trans c1, (pk_un (by decide)).trans c2, fun z => (pk_un (by decide)).trans (c3 z), fun z => (pk_un (by decide)).trans (c4 z), c5⟩, fun k k3 k5 k6 k7 k8 k10 k11 k13 k14 => (pk_un k8).trans (h2 k k3 k5 k6 k7 k8 k10 k11 k13 k14), fun q q2 q3 q6 => ?_, by rw [pk_us]; simp, (pk_un (by decide)).trans h10, (pk_un (by decide)).trans h11, (pk_un (by decide)).trans h13, (pk_un (by decide)).trans h14, fun j hj => ?_, STY.of h16 (fun j _ => rfl)⟩, fun j hj => pk_un hj, rfl⟩
  · simp only [gsY_X11_add_1, h8]
    rw [nI_clamp (by omega), nI_1]
    rfl
  · show (if q = 3 then _ else if q = 2 then _ else f q) = f0 q
    rw [if_neg q3, if_neg q2]; exact h3 q q2 q3 q6
  · rw [getD_snoc]
    show upd (f 2) out.length (nI (eA k)) j = _ ∧ upd (f 3) out.length (eB k x) j = _
    by_cases e : j < out.length
    · rw [if_pos e, pk_un (by omega), pk_un (by omega)]; exact h15 j e
    · have e2 : j = out.length := by simp at hj; omega
      rw [if_neg e, if_pos e2, e2, pk_us, pk_us]
      exact ⟨rfl, rfl⟩
theorem eAB_sg : ∀ a, a < 256 → fSg a = true → eA a = 3 ∧ a ≠ 40 ∧ a ≠ 115 ∧ eB a 0 = nI (eS a) := by decide +kernel
theorem STY.lt : ∀ {st : List Nat} {f : Nat → Nat → Int32}, STY st f → ∀ a, a ∈ st → vS a = true := by
  intro st
  induction st with
  | nil => intro f _ a ha; exact absurd ha (by simp)
  | cons b l ih =>
    intro f h a ha
    rcases List.mem_cons.mp ha with e | e
    · rw [e]; exact h.2.1
    · exact ih h.2.2 a e
theorem YR.close {t : Nat} (ht : t ≤ 6) : ∀ (st : List Nat) (fu : Nat) (v : Nat → Int32) (f : Nat → Nat → Int32) (out : List (Nat × Int32)), YR c n v0 f0 v f w i out st own → st.length < fu → out.length + st.length < 1000 → ∃ v' f', gsY_X11_close_1_L1 NF (nI t) fu v f w g = (v', f', w, g) ∧ YR c n v0 f0 v' f' w i (fCls t out st).1 (fCls t out st).2 own := by
  intro st
  induction st with
  | nil =>
    intro fu v f out h hf _
    obtain ⟨fu, rfl⟩ : ∃ q, fu = q + 1 := ⟨fu - 1, by omega⟩
    refine ⟨v, f, ?_, h⟩
    have h10 : v 10 = 0 := h.2.2.2.2.1
    simp only [gsY_X11_close_1_L1, h10]
    rw [if_pos (show (0 : Int32) ≤ 0 by decide)]
  | cons a l ih =>
    intro fu v f out h hf hb
    obtain ⟨fu, rfl⟩ : ∃ q, fu = q + 1 := ⟨fu - 1, by omega⟩
    rw [List.length_cons] at hf hb
    have h10 : v 10 = nI (l.length + 1) := h.2.2.2.2.1
    obtain ⟨s1, s2, s3⟩ := h.2.2.2.2.2.2.2.2.2
    have ha := vS_lt s2
    obtain ⟨q20, q21, qlt, _⟩ := vS_f a ha s2
    have hcl : fCls t out (a :: l) = if a = 40 ∨ fTg a < t then (out, a :: l) else fCls t (out ++ [(a, 0)]) l := rfl
    simp only [gsY_X11_close_1_L1, h10, nI_pred]
    rw [if_neg (nI_nle (by omega) (by omega)), nI_clamp (by omega), s1]
    by_cases e40 : a = 40
    · rw [if_pos (by rw [q20.mpr e40]; rfl), hcl, if_pos (Or.inl e40)]
      exact ⟨v, f, rfl, h⟩
    · rw [if_neg (nlit 20 20 rfl (by omega) (by decide) (fun z => e40 (q20.mp z))), yTight s2 e40]
      have h6 := fTg_lt a
      by_cases el : fTg a < t
      · rw [if_pos (nI_lt el (by omega)), hcl, if_pos (Or.inr el)]
        exact ⟨v, f, rfl, h⟩
      · rw [if_neg (nI_nlt (by omega) (by omega)), hcl, if_neg (show ¬ (a = 40 ∨ fTg a < t) from fun z => z.elim e40 el)]
        obtain ⟨⟨c1, c2, c3, c4, c5⟩, h2, h3, h8, _, h11, h13, h14, h15, _⟩ := h
        by_cases e115 : a = 115
        · have x1 : YR c n v0 f0 (upd (upd v 10 (nI l.length)) 14 (nI (fDp l))) f w i out l own := ⟨⟨(pk_un (by decide)).trans ((pk_un (by decide)).trans c1), (pk_un (by decide)).trans ((pk_un (by decide)).trans c2), fun z => (pk_un (by decide)).trans ((pk_un (by decide)).trans (c3 z)), fun z => (pk_un (by decide)).trans ((pk_un (by decide)).trans (c4 z)), c5⟩, fun k k3 k5 k6 k7 k8 k10 k11 k13 k14 => (pk_un k14).trans ((pk_un k10).trans (h2 k k3 k5 k6 k7 k8 k10 k11 k13 k14)), h3, (pk_un (by decide)).trans ((pk_un (by decide)).trans h8), (pk_un (by decide)).trans pk_us, (pk_un (by decide)).trans ((pk_un (by decide)).trans h11), (pk_un (by decide)).trans ((pk_un (by decide)).trans h13), pk_us, h15, s3⟩
          have d1 : fDp (a :: l) = fDp l + 1 := by show (if a = 115 ∨ a = 40 then 1 else 0) + fDp l = _; rw [if_pos (Or.inl e115)]; omega
          rw [if_pos (by rw [q21.mpr e115]; rfl), h14, d1]
          have hadd : gsY_X11_add_1 NF 2 0 (upd v 10 (nI l.length)) f w g = (upd (upd v 10 (nI l.length)) 8 (nI (out.length + 1)), upd2 (upd2 f 2 (upd (f 2) out.length 2)) 3 (upd (f 3) out.length 0), w, g) := by
            simp only [gsY_X11_add_1]
            rw [pk_un (show (8 : Nat) ≠ 10 by decide), h8, nI_clamp (by omega), nI_1]
            rfl
          have x2 : YR c n v0 f0 (upd (upd (upd v 10 (nI l.length)) 8 (nI (out.length + 1))) 14 (nI (fDp l))) (upd2 (upd2 f 2 (upd (f 2) out.length 2)) 3 (upd (f 3) out.length 0)) w i (out ++ [(115, 0)]) l own := by
            obtain ⟨v', f', e, y, _, _⟩ := YR.add (NF := NF) (g := g) (k := 115) (x := 0) (a := 2) (y := 0) rfl rfl (by omega) x1
            have e' : gsY_X11_add_1 NF (nI 2) 0 (upd (upd v 10 (nI l.length)) 14 (nI (fDp l))) f w g = (upd (upd (upd v 10 (nI l.length)) 14 (nI (fDp l))) 8 (nI (out.length + 1)), upd2 (upd2 f 2 (upd (f 2) out.length 2)) 3 (upd (f 3) out.length 0), w, g) := by
              simp only [gsY_X11_add_1]
              rw [pk_un (show (8 : Nat) ≠ 14 by decide), pk_un (show (8 : Nat) ≠ 10 by decide), h8, nI_clamp (by omega), nI_1]
              rfl
            have := e.symm.trans e'
            injection this with a1 a2
            injection a2 with a2 a3
            rw [a1, a2] at y
            rw [show upd (upd (upd v 10 (nI l.length)) 8 (nI (out.length + 1))) 14 (nI (fDp l)) = upd (upd (upd v 10 (nI l.length)) 14 (nI (fDp l))) 8 (nI (out.length + 1)) from upd_comm (by decide)]
            exact y
          rw [show nI (fDp l + 1) - 1 = nI (fDp l) from nI_pred _, hadd, e115]
          exact ih fu _ _ _ x2 (by omega) (by rw [List.length_append, List.length_singleton]; omega)
        · have hsg : fSg a = true := by
            simp only [vS, Bool.or_eq_true, beq_iff_eq] at s2
            exact s2.resolve_left (fun z => z.elim e115 e40)
          obtain ⟨g1, _, _, g4⟩ := eAB_sg a ha hsg
          have x1 : YR c n v0 f0 (upd v 10 (nI l.length)) f w i out l own := ⟨⟨(pk_un (by decide)).trans c1, (pk_un (by decide)).trans c2, fun z => (pk_un (by decide)).trans (c3 z), fun z => (pk_un (by decide)).trans (c4 z), c5⟩, fun k k3 k5 k6 k7 k8 k10 k11 k13 k14 => (pk_un k10).trans (h2 k k3 k5 k6 k7 k8 k10 k11 k13 k14), h3, (pk_un (by decide)).trans h8, pk_us, (pk_un (by decide)).trans h11, (pk_un (by decide)).trans h13, (pk_un (by decide)).trans (by rw [h14]; show nI ((if a = 115 ∨ a = 40 then 1 else 0) + fDp l) = _; rw [if_neg (fun z => z.elim e115 e40), Nat.zero_add]), h15, s3⟩
          obtain ⟨v', f', e, y, _, _⟩ := YR.add (NF := NF) (g := g) (k := a) (x := 0) (a := 3) (y := nI (eS a)) g1.symm g4.symm (by omega) x1
          have e : gsY_X11_add_1 NF 3 (nI (eS a)) (upd v 10 (nI l.length)) f w g = (v', f', w, g) := e
          rw [if_neg (nlit 21 21 rfl (by omega) (by decide) (fun z => e115 (q21.mp z))), e]
          exact ih fu v' f' _ y (by omega) (by rw [List.length_append, List.length_singleton]; omega)
end
end
