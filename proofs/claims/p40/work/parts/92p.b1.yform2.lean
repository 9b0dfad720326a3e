section
variable {NF : Nat}
theorem fCls_len {t : Nat} : ∀ (st : List Nat) (out : List (Nat × Int32)), (fCls t out st).1.length + (fCls t out st).2.length = out.length + st.length ∧ (fCls t out st).2.length ≤ st.length ∧ fDp (fCls t out st).2 ≤ fDp st := by
  intro st
  induction st with
  | nil => intro out; exact ⟨rfl, Nat.le_refl _, Nat.le_refl _⟩
  | cons a l ih =>
    intro out
    rw [show fCls t out (a :: l) = if a = 40 ∨ fTg a < t then (out, a :: l) else fCls t (out ++ [(a, 0)]) l from rfl]
    by_cases h : a = 40 ∨ fTg a < t
    · rw [if_pos h]; exact ⟨rfl, Nat.le_refl _, Nat.le_refl _⟩
    · rw [if_neg h]
      obtain ⟨h1, h2, h3⟩ := ih (out ++ [(a, 0)])
      rw [List.length_append, List.length_singleton] at h1
      have h4 : fDp (a :: l) = (if a = 115 ∨ a = 40 then 1 else 0) + fDp l := rfl
      rw [List.length_cons]
      exact ⟨by omega, by omega, by omega⟩
theorem fCls0_B : ∀ (st : List Nat) (out : List (Nat × Int32)), fHasB st = true → ∃ P rest, st = P ++ 40 :: rest ∧ (∀ a ∈ P, a ≠ 40) ∧ fCls 0 out st = (out ++ fMp P, 40 :: rest) := by
  intro st
  induction st with
  | nil => intro out h; exact absurd h (by decide)
  | cons a l ih =>
    intro out h
    by_cases e : a = 40
    · subst e
      exact ⟨[], l, rfl, fun a ha => absurd ha (by simp), by rw [fCls_stop (Or.inr ⟨40, l, rfl, Or.inl rfl⟩)]; simp [fMp]⟩
    · have hl : fHasB l = true := by
        simp only [fHasB, List.contains_eq_mem, List.mem_cons, decide_eq_true_eq] at h ⊢
        exact h.resolve_left (fun z => e z.symm)
      obtain ⟨P, rest, h1, h2, h3⟩ := ih (out ++ [(a, 0)]) hl
      refine ⟨a :: P, rest, by rw [h1]; rfl, fun b hb => ?_, ?_⟩
      · rcases List.mem_cons.mp hb with q | q
        · rw [q]; exact e
        · exact h2 b q
      · rw [show fCls 0 out (a :: l) = if a = 40 ∨ fTg a < 0 then (out, a :: l) else fCls 0 (out ++ [(a, 0)]) l from rfl, if_neg (fun z => z.elim e (fun q => absurd q (Nat.not_lt_zero _))), h3]
        simp [fMp]
theorem fCls0_N {st : List Nat} (out : List (Nat × Int32)) (h : fHasB st = false) : fCls 0 out st = (out ++ fMp st, []) := by
  have e := fCls_app (t := 0) (st := []) (Or.inl rfl) st out (fun a ha => ⟨fun z => by
    rw [z] at ha
    have : fHasB st = true := by simp only [fHasB, List.contains_eq_mem, decide_eq_true_eq]; exact ha
    rw [h] at this
    exact absurd this (by decide), Nat.zero_le _⟩)
  rwa [List.append_nil] at e
theorem sg_e : ∀ a, a < 256 → fSg a = true → ¬ nI (eS a) = 0 ∧ vS a = true ∧ a ≠ 1 ∧ a ≠ 41 ∧ a ≠ 40 ∧ a ≠ 115 := by decide +kernel
section
variable {c : Nat → Nat} {n : Nat} {v0 : Nat → Int32} {f0 : Nat → Nat → Int32} {g : Nat → Int64}
def YFIN (c : Nat → Nat) (n : Nat) (v0 : Nat → Int32) (f0 : Nat → Nat → Int32) (g : Nat → Int64) (r : (Nat → Int32) × (Nat → Nat → Int32) × Int64 × (Nat → Int64)) (res : Nat × Nat × List (Nat × Int32) × Nat) : Prop := (∃ (j : Nat) (out' : List (Nat × Int32)) (own' : Nat) (v' : Nat → Int32) (f' : Nat → Nat → Int32) (w' : Int64), res = (0, j, out', own') ∧ r = (v', f', w', g) ∧ YR c n v0 f0 v' f' w' j out' [] own') ∨ YBAD c n v0 f0 g r res
theorem yL_f {v : Nat → Int32} {f : Nat → Nat → Int32} {w : Int64} {l : Int32} {s : Nat} (h1 : v 1 = nI s) (h0 : 0 < s) (hs : s < 100) (fu : Nat) : gsY_X11_formula_1_L20 NF (fu + 1) l v f w g = (v, f, w, g) := by
  simp only [gsY_X11_formula_1_L20, gsY_X11_formula_1_J21, gsY_X11_formula_1_J22, h1]
  have hn : ¬ nI s = 0 := nI_ne0 h0 (by omega)
  simp only [if_neg hn]
  split <;> rfl
theorem yLoop (T : TY c n v0 f0) (hc : ∀ k, k < n → c k < 256) (h0 : v0 1 = 0) {res : Nat × Nat × List (Nat × Int32) × Nat} : ∀ (fu m i own : Nat) (out : List (Nat × Int32)) (st : List Nat) (v : Nat → Int32) (f : Nat → Nat → Int32) (w : Int64), YR c n v0 f0 v f w i out st own → own ≤ 30 → fDp st ≤ 7 → out.length + st.length ≤ 10 * own → 10 * (31 - own) + st.length + 1 < fu → sy (tk_k c n) (tk_n c n) m false i out st own = some res → YFIN c n v0 f0 g (gsY_X11_formula_1_L20 NF fu 1 v f w g) res := by
  intro fu
  induction fu with
  | zero => intro m i own out st v f w _ _ _ _ h; exact absurd h (Nat.not_lt_zero _)
  | succ fu ih =>
    intro m i own out st v f w h ho hd hb hf hs
    have hk := tk_lt hc i
    have hf1 := YR.f1 h h0
    have hst : st.length < 1000 := by omega
    obtain ⟨t40, t2, t41, _, _⟩ := tS40 _ hk
    have hr := fFl_r (tk_k c n i)
    obtain ⟨m, rfl⟩ : ∃ q, m = q + 1 := by
      rcases m with _ | q
      · exact absurd hs (by simp [sy])
      · exact ⟨q, rfl⟩
    obtain ⟨fu, rfl⟩ : ∃ q, fu = q + 1 := ⟨fu - 1, by omega⟩
    have hS : STY st f := h.2.2.2.2.2.2.2.2.2
    have h10 : v 10 = nI st.length := h.2.2.2.2.1
    have h14 : v 14 = nI (fDp st) := h.2.2.2.2.2.2.2.1
    have stop : ¬ (fSg (tk_k c n i) = true ∧ ¬ (fTg (tk_k c n i) = 4 ∧ fHasR st = true)) → ¬ (tk_k c n i = 41 ∧ fHasB st = true) → YFIN c n v0 f0 g (gsY_X11_formula_1_L20 NF (fu + 1) 0 v f w g) res := fun z1 z2 => by
      rw [gsY_X11_formula_1_L20, if_pos rfl]
      simp only [gsY_X11_formula_1_J21, hf1, yHasB hS h10 hst]
      rw [if_pos trivial]
      by_cases hB : fHasB st = true
      · rw [if_pos hB, ite11, YR.wrong hc h0 h]
        have y1 := YR.fail (s := fFl (tk_k c n i)) h
        rw [sy_stB (fun q => z2 ⟨q, hB⟩) z1 hB] at hs
        injection hs with hs
        refine Or.inr ⟨_, i, _, f, w, hs.symm, hr.1, by omega, ?_, y1⟩
        show (if upd (upd v 1 (nI (fFl (tk_k c n i)))) 2 (nI (tk_p c n i)) 1 = 0 then _ else _) = _
        rw [y1.1, if_neg (nI_ne0 hr.1 (by omega))]
      · have hB := Bool.eq_false_iff.mpr hB
        rw [hB, if_neg (show ¬ false = true by decide), ite01]
        simp only [gsY_X11_formula_1_J22, hf1]
        rw [if_pos trivial]
        rw [sy_stN z1 hB] at hs
        injection hs with hs
        obtain ⟨v', f', e, y⟩ := YR.close (NF := NF) (t := 0) (g := g) (by decide) st (4294967296 + NF) v f out h (by omega) (by omega)
        have e : gsY_X11_close_1 NF 0 v f w g = (v', f', w, g) := e
        simp only [e]
        rw [fCls0_N out hB] at y hs
        exact Or.inl ⟨i, _, own, v', f', w, hs.symm, rfl, y⟩
    rw [gsY_X11_formula_1_L20, if_neg (show ¬ (1 : Int32) = 0 by decide), if_pos hf1]
    simp only [ySign hc h.1, h.1.2.1, yHasB hS h10 hst]
    have other : ¬ (tk_k c n i = 41 ∧ fHasB st = true) → YFIN c n v0 f0 g (gsY_X11_formula_1_J72 NF f g 1 v w (if fSg (tk_k c n i) = true then nI (eS (tk_k c n i)) else 0) (fun z0 z1 z2 z3 z4 => gsY_X11_formula_1_L20 NF (fu + 1) z0 z1 z2 z3 z4)) res := fun z2 => by
      by_cases hsg : fSg (tk_k c n i) = true
      · obtain ⟨g0, gv, g1, g41, g40, g115⟩ := sg_e _ hk hsg
        have h6 := fTg_lt (tk_k c n i)
        rw [if_pos hsg]
        simp only [gsY_X11_formula_1_J72, yTight gv g40, yHasR hS h10 hst]
        rw [if_neg g0]
        have go : ¬ (fTg (tk_k c n i) = 4 ∧ fHasR st = true) → YFIN c n v0 f0 g (gsY_X11_formula_1_J74 NF f g 1 v w (nI (eS (tk_k c n i))) (fun z0 z1 z2 z3 z4 => gsY_X11_formula_1_L20 NF (fu + 1) z0 z1 z2 z3 z4)) res := fun z4 => by
          rw [sy_sg g41 hsg z4] at hs
          obtain ⟨l1, l2, l3⟩ := fCls_len (t := fTg (tk_k c n i)) st out
          obtain ⟨v1, f1, e1, x1⟩ := YR.close (NF := NF) (t := fTg (tk_k c n i)) (g := g) h6 st (4294967296 + NF) v f out h (by omega) (by omega)
          have e1 : gsY_X11_close_1 NF (nI (fTg (tk_k c n i))) v f w g = (v1, f1, w, g) := e1
          simp only [gsY_X11_formula_1_J74, yTight gv g40, e1]
          generalize fCls (fTg (tk_k c n i)) out st = Q at hs l1 l2 l3 x1
          obtain ⟨o2, s2⟩ := Q
          have d1 : fDp (tk_k c n i :: s2) = fDp s2 := by show (if tk_k c n i = 115 ∨ tk_k c n i = 40 then 1 else 0) + fDp s2 = _; rw [if_neg (fun z => z.elim g115 g40), Nat.zero_add]
          have l1 : o2.length + s2.length = out.length + st.length := l1
          have l2 : s2.length ≤ st.length := l2
          have l3 : fDp s2 ≤ fDp st := l3
          have x1 : YR c n v0 f0 v1 f1 w i o2 s2 own := x1
          have hs : sy (tk_k c n) (tk_n c n) m true (i + 1) o2 (tk_k c n i :: s2) own = some res := hs
          have x2 : YR c n v0 f0 (upd v1 10 (nI (s2.length + 1))) (upd2 f1 6 (upd (f1 6) s2.length (nI (eS (tk_k c n i))))) w i o2 (tk_k c n i :: s2) own := by
            obtain ⟨⟨c1, c2, c3, c4, c5⟩, q2, q3, q8, q10, q11, q13, q14, q15, q16⟩ := x1
            refine ⟨⟨(pk_un (by decide)).trans c1, (pk_un (by decide)).trans c2, fun z => (pk_un (by decide)).trans (c3 z), fun z => (pk_un (by decide)).trans (c4 z), c5⟩, fun k k3 k5 k6 k7 k8 k10 k11 k13 k14 => (pk_un k10).trans (q2 k k3 k5 k6 k7 k8 k10 k11 k13 k14), fun q r2 r3 r6 => ?_, (pk_un (by decide)).trans q8, by rw [pk_us]; rfl, (pk_un (by decide)).trans q11, (pk_un (by decide)).trans q13, (pk_un (by decide)).trans (by rw [q14, d1]), fun j hj => q15 j hj, ?_, gv, STY.of q16 (fun j hj => ?_)⟩
            · show (if q = 6 then _ else f1 q) = f0 q
              rw [if_neg r6]; exact q3 q r2 r3 r6
            · show upd (f1 6) s2.length (nI (eS (tk_k c n i))) s2.length = _; rw [pk_us]
            · show upd (f1 6) s2.length (nI (eS (tk_k c n i))) j = f1 6 j; exact pk_un (by omega)
          have q10 : v1 10 = nI s2.length := x1.2.2.2.2.1
          rw [q10, nI_clamp (by omega), nI_1]
          obtain ⟨v3, w3, e3, x3⟩ := YR.tok (NF := NF) (g := g) T x2 g1
          simp only [e3]
          have hU := yUnit (NF := NF) (g := g) T hc h0 (4294967296 + NF) m (i + 1) own o2 (tk_k c n i :: s2) v3 _ w3 x3 ho (by omega) (by rw [List.length_cons]; omega) (by omega) hs
          unfold gsY_X11_unit_1
          rcases hU with ⟨m', i', o', s', w', a1, a2, a3, b1, b2, b3, b4, b5, b6, b7, b8⟩ | ⟨s, j, a1, a2, a3, b1, b2, b3, b4, b5⟩
          · simp only [b1]
            rw [List.length_cons] at b7
            exact ih m' i' w' o' s' a1 a2 a3 b2 b5 b6 b8 (by omega) b3
          · simp only [b4]
            exact Or.inr ⟨s, j, a1, a2, a3, b1, b2, b3, yL_f b5.1 b2 b3 fu, b5⟩
        by_cases e4 : fTg (tk_k c n i) = 4
        · rw [if_pos (by rw [e4]; rfl)]
          by_cases hR : fHasR st = true
          · rw [if_pos hR, ite11]
            exact stop (fun z => z.2 ⟨e4, hR⟩) z2
          · rw [if_neg hR, ite01]
            exact go (fun z => hR z.2)
        · rw [if_neg (nlit 4 4 rfl (by omega) (by decide) e4)]
          exact go (fun z => e4 z.1)
      · rw [if_neg hsg]
        simp only [gsY_X11_formula_1_J72]
        rw [if_pos trivial]
        exact stop (fun z => hsg z.1) z2
    by_cases e41 : tk_k c n i = 41
    · rw [if_pos (t41.mpr e41)]
      by_cases hB : fHasB st = true
      · rw [if_pos hB, ite11]
        rw [sy_cl e41 hB] at hs
        obtain ⟨P, rest, p1, p2, p3⟩ := fCls0_B st out hB
        obtain ⟨v1, f1, e1, x1⟩ := YR.close (NF := NF) (t := 0) (g := g) (by decide) st (4294967296 + NF) v f out h (by omega) (by omega)
        have e1 : gsY_X11_close_1 NF 0 v f w g = (v1, f1, w, g) := e1
        rw [p3] at x1 hs
        have d1 : fDp (40 :: rest) = fDp rest + 1 := by show (if (40 : Nat) = 115 ∨ (40 : Nat) = 40 then 1 else 0) + fDp rest = _; rw [if_pos (Or.inr rfl), Nat.add_comm]
        have hlen : st.length = P.length + rest.length + 1 := by rw [p1, List.length_append, List.length_cons]; omega
        have hdr : fDp rest ≤ 7 := by
          have := (fCls_len (t := 0) st out).2.2
          rw [p3] at this
          have : fDp (40 :: rest) ≤ fDp st := this
          omega
        have x2 : YR c n v0 f0 (upd (upd v1 10 (nI rest.length)) 14 (nI (fDp rest))) f1 w i (out ++ fMp P) rest own := by
          obtain ⟨⟨c1, c2, c3, c4, c5⟩, q2, q3, q8, q10, q11, q13, q14, q15, q16⟩ := x1
          exact ⟨⟨(pk_un (by decide)).trans ((pk_un (by decide)).trans c1), (pk_un (by decide)).trans ((pk_un (by decide)).trans c2), fun z => (pk_un (by decide)).trans ((pk_un (by decide)).trans (c3 z)), fun z => (pk_un (by decide)).trans ((pk_un (by decide)).trans (c4 z)), c5⟩, fun k k3 k5 k6 k7 k8 k10 k11 k13 k14 => (pk_un k14).trans ((pk_un k10).trans (q2 k k3 k5 k6 k7 k8 k10 k11 k13 k14)), q3, (pk_un (by decide)).trans ((pk_un (by decide)).trans q8), (pk_un (by decide)).trans pk_us, (pk_un (by decide)).trans ((pk_un (by decide)).trans q11), (pk_un (by decide)).trans ((pk_un (by decide)).trans q13), pk_us, q15, q16.2.2⟩
        have q10 : v1 10 = nI (rest.length + 1) := x1.2.2.2.2.1
        have q14 : v1 14 = nI (fDp rest + 1) := by rw [← d1]; exact x1.2.2.2.2.2.2.2.1
        obtain ⟨v3, w3, e3, x3⟩ := YR.tok (NF := NF) (g := g) T x2 (by omega)
        simp only [e1, q10, q14, nI_pred, e3]
        exact ih m (i + 1) own (out ++ fMp P) rest v3 f1 w3 x3 ho hdr (by rw [List.length_append, fMp_len]; omega) (by omega) hs
      · rw [if_neg hB, ite01]
        exact other (fun z => hB z.2)
    · rw [if_neg (fun z => e41 (t41.mp z))]
      exact other (fun z => e41 z.1)
end
end
