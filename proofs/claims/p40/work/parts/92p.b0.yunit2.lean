section
variable {NF : Nat}
section
variable {c : Nat → Nat} {n : Nat} {v0 : Nat → Int32} {f0 : Nat → Nat → Int32} {g : Nat → Int64}
theorem YR.count {v : Nat → Int32} {f : Nat → Nat → Int32} {w : Int64} {i own : Nat} {out : List (Nat × Int32)} {st : List Nat} (h : YR c n v0 f0 v f w i out st own) : ∃ v', gsY_X11_countUnit_1 NF v f w g = (v', f, w, g) ∧ YR c n v0 f0 v' f w i out st (own + 1) := by
  obtain ⟨⟨c1, c2, c3, c4, c5⟩, h2, h3, h8, h10, h11, h13, h14, h15, h16⟩ := h
  refine ⟨upd (upd v 11 (nI (own + 1))) 13 (nI (own + 1)), ?_, ⟨(pk_un (by decide)).trans ((pk_un (by decide)).trans c1), (pk_un (by decide)).trans ((pk_un (by decide)).trans c2), fun z => (pk_un (by decide)).trans ((pk_un (by decide)).trans (c3 z)), fun z => (pk_un (by decide)).trans ((pk_un (by decide)).trans (c4 z)), c5⟩, fun k k3 k5 k6 k7 k8 k10 k11 k13 k14 => (pk_un k13).trans ((pk_un k11).trans (h2 k k3 k5 k6 k7 k8 k10 k11 k13 k14)), h3, (pk_un (by decide)).trans ((pk_un (by decide)).trans h8), (pk_un (by decide)).trans ((pk_un (by decide)).trans h10), (pk_un (by decide)).trans pk_us, pk_us, (pk_un (by decide)).trans ((pk_un (by decide)).trans h14), h15, h16⟩
  simp only [gsY_X11_countUnit_1, h11, h13, nI_1]
theorem YR.full {v : Nat → Int32} {f : Nat → Nat → Int32} {w : Int64} {i own : Nat} {out : List (Nat × Int32)} {st : List Nat} (h : YR c n v0 f0 v f w i out st own) (ho : own ≤ 30) : gsY_X11_isFull_1 NF v f w g = if own = 30 then 1 else 0 := by
  have h11 : v 11 = nI own := h.2.2.2.2.2.1
  have h13 : v 13 = nI own := h.2.2.2.2.2.2.1
  simp only [gsY_X11_isFull_1, h11, h13]
  rw [if_neg (nlit 60 60 rfl (show own < 2 ^ 31 by omega) (by decide) (by omega))]
  by_cases e : own = 30
  · rw [if_pos e, if_pos (by rw [e]; rfl)]
  · rw [if_neg e, if_neg (nlit 30 30 rfl (by omega) (by decide) e)]
theorem YR.openUp (T : TY c n v0 f0) (h0 : v0 1 = 0) {v : Nat → Int32} {f : Nat → Nat → Int32} {w : Int64} {i own a : Nat} {out : List (Nat × Int32)} {st : List Nat} (h : YR c n v0 f0 v f w i out st own) (ha : a = 115 ∨ a = 40) (h1 : tk_k c n i ≠ 1) (hb : st.length < 1000) : ∃ v' f' w', gsY_X11_openUp_1 NF (nI (eS a)) v f w g = (v', f', w', g) ∧ YR c n v0 f0 v' f' w' (i + 1) out (a :: st) own := by
  have hf1 := YR.f1 h h0
  have hva : vS a = true := by rcases ha with e | e <;> (rw [e]; rfl)
  have x1 : YR c n v0 f0 (upd (upd v 10 (nI (st.length + 1))) 14 (nI (fDp st + 1))) (upd2 f 6 (upd (f 6) st.length (nI (eS a)))) w i out (a :: st) own := by
    obtain ⟨⟨c1, c2, c3, c4, c5⟩, h2, h3, h8, h10, h11, h13, h14, h15, h16⟩ := h
    refine ⟨⟨(pk_un (by decide)).trans ((pk_un (by decide)).trans c1), (pk_un (by decide)).trans ((pk_un (by decide)).trans c2), fun z => (pk_un (by decide)).trans ((pk_un (by decide)).trans (c3 z)), fun z => (pk_un (by decide)).trans ((pk_un (by decide)).trans (c4 z)), c5⟩, fun k k3 k5 k6 k7 k8 k10 k11 k13 k14 => (pk_un k14).trans ((pk_un k10).trans (h2 k k3 k5 k6 k7 k8 k10 k11 k13 k14)), fun q q2 q3 q6 => ?_, (pk_un (by decide)).trans ((pk_un (by decide)).trans h8), (pk_un (by decide)).trans (by rw [pk_us]; rfl), (pk_un (by decide)).trans ((pk_un (by decide)).trans h11), (pk_un (by decide)).trans ((pk_un (by decide)).trans h13), ?_, fun j hj => h15 j hj, ?_, hva, STY.of h16 (fun j hj => ?_)⟩
    · show (if q = 6 then _ else f q) = f0 q
      rw [if_neg q6]; exact h3 q q2 q3 q6
    · rw [pk_us]; show nI (fDp st + 1) = nI ((if a = 115 ∨ a = 40 then 1 else 0) + fDp st); rw [if_pos ha, Nat.add_comm]
    · show upd (f 6) st.length (nI (eS a)) st.length = _; rw [pk_us]
    · show upd (f 6) st.length (nI (eS a)) j = f 6 j; exact pk_un (by omega)
  obtain ⟨v', w', e, y⟩ := YR.tok (NF := NF) (g := g) T x1 h1
  refine ⟨v', _, w', ?_, y⟩
  obtain ⟨_, _, _, _, h10, _, _, h14, _, _⟩ := h
  simp only [gsY_X11_openUp_1, hf1, h10, h14, nI_1, nI_clamp (show st.length < 2 ^ 31 by omega), e]
  exact if_pos trivial
theorem tS40 : ∀ k, k < 256 → (nI (tS k) = 40 ↔ k = 40) ∧ (nI (tS k) = 2 ↔ k = 2) ∧ (nI (tS k) = 41 ↔ k = 41) ∧ (nI (tS k) = 59 ↔ k = 59) ∧ (nI (tS k) = 0 ↔ k = 0) := by decide +kernel
theorem yU_f {v : Nat → Int32} {f : Nat → Nat → Int32} {w : Int64} {l : Int32} {s : Nat} (h1 : v 1 = nI s) (h0 : 0 < s) (hs : s < 100) (fu : Nat) : gsY_X11_unit_1_L1 NF (fu + 1) l v f w g = (v, f, w, g) := by
  simp only [gsY_X11_unit_1_L1, gsY_X11_unit_1_J2, h1]
  rw [if_neg (nI_nle h0 (by omega)), if_neg (nI_ne0 h0 (by omega))]
  split <;> rfl
theorem yOpenF {v : Nat → Int32} {f : Nat → Nat → Int32} {w : Int64} {s : Nat} {p : Int32} (h1 : v 1 = nI s) (h0 : 0 < s) (hs : s < 100) : gsY_X11_openUp_1 NF p v f w g = (upd (upd v 10 (v 10 + 1)) 14 (v 14 + 1), upd2 f 6 (upd (f 6) (v 10).toNatClampNeg p), w, g) := by
  simp only [gsY_X11_openUp_1, h1]
  rw [if_neg (nI_ne0 h0 (by omega))]
theorem YF.o {v : Nat → Int32} {f : Nat → Nat → Int32} {s j : Nat} {x y : Int32} {p : Nat → Int32} (h : YF c n v0 f0 v f s j) : YF c n v0 f0 (upd (upd v 10 x) 14 y) (upd2 f 6 p) s j := by
  obtain ⟨h1, h2, h3, h4⟩ := h
  refine ⟨(pk_un (by decide)).trans ((pk_un (by decide)).trans h1), (pk_un (by decide)).trans ((pk_un (by decide)).trans h2), fun k k1 k2 k3 k5 k6 k7 k8 k10 k11 k13 k14 => (pk_un k14).trans ((pk_un k10).trans (h3 k k1 k2 k3 k5 k6 k7 k8 k10 k11 k13 k14)), fun q q2 q3 q6 => ?_⟩
  show (if q = 6 then p else f q) = f0 q
  rw [if_neg q6]; exact h4 q q2 q3 q6
theorem YF.u {v : Nat → Int32} {f : Nat → Nat → Int32} {s j : Nat} {x y : Int32} (h : YF c n v0 f0 v f s j) : YF c n v0 f0 (upd (upd v 11 x) 13 y) f s j := by
  obtain ⟨h1, h2, h3, h4⟩ := h
  exact ⟨(pk_un (by decide)).trans ((pk_un (by decide)).trans h1), (pk_un (by decide)).trans ((pk_un (by decide)).trans h2), fun k k1 k2 k3 k5 k6 k7 k8 k10 k11 k13 k14 => (pk_un k13).trans ((pk_un k11).trans (h3 k k1 k2 k3 k5 k6 k7 k8 k10 k11 k13 k14)), h4⟩
theorem YR.fail {v : Nat → Int32} {f : Nat → Nat → Int32} {w : Int64} {i own s : Nat} {out : List (Nat × Int32)} {st : List Nat} (h : YR c n v0 f0 v f w i out st own) : YF c n v0 f0 (upd (upd v 1 (nI s)) 2 (nI (tk_p c n i))) f s i := ⟨(pk_un (by decide)).trans pk_us, pk_us, fun k k1 k2 k3 k5 k6 k7 k8 k10 k11 k13 k14 => (pk_un k2).trans ((pk_un k1).trans (h.2.1 k k3 k5 k6 k7 k8 k10 k11 k13 k14)), h.2.2.1⟩
def YOK (c : Nat → Nat) (n : Nat) (v0 : Nat → Int32) (f0 : Nat → Nat → Int32) (g : Nat → Int64) (r : (Nat → Int32) × (Nat → Nat → Int32) × Int64 × (Nat → Int64)) (own : Nat) (st : List Nat) (res : Nat × Nat × List (Nat × Int32) × Nat) : Prop := ∃ (m i' : Nat) (out' : List (Nat × Int32)) (st' : List Nat) (own' : Nat) (v' : Nat → Int32) (f' : Nat → Nat → Int32) (w' : Int64), r = (v', f', w', g) ∧ YR c n v0 f0 v' f' w' i' out' st' own' ∧ sy (tk_k c n) (tk_n c n) m false i' out' st' own' = some res ∧ own < own' ∧ own' ≤ 30 ∧ fDp st' ≤ 7 ∧ st'.length + fDp st = st.length + fDp st' ∧ out'.length + st'.length ≤ 10 * own'
def YBAD (c : Nat → Nat) (n : Nat) (v0 : Nat → Int32) (f0 : Nat → Nat → Int32) (g : Nat → Int64) (r : (Nat → Int32) × (Nat → Nat → Int32) × Int64 × (Nat → Int64)) (res : Nat × Nat × List (Nat × Int32) × Nat) : Prop := ∃ (s j : Nat) (v' : Nat → Int32) (f' : Nat → Nat → Int32) (w' : Int64), res = (s, j, [], 0) ∧ 0 < s ∧ s < 100 ∧ r = (v', f', w', g) ∧ YF c n v0 f0 v' f' s j
theorem yUnitEnd (T : TY c n v0 f0) (hc : ∀ k, k < n → c k < 256) (h0 : v0 1 = 0) {v : Nat → Int32} {f : Nat → Nat → Int32} {w : Int64} {i own m : Nat} {out : List (Nat × Int32)} {st : List Nat} {res : Nat × Nat × List (Nat × Int32) × Nat} (h : YR c n v0 f0 v f w i out st own) (ho : own ≤ 30) (hd : fDp st ≤ 7) (hb : out.length + st.length ≤ 10 * own + fDp st + 1) (hn : tk_k c n i = 115 → fMay st = false) (h40 : tk_k c n i ≠ 40) (hs : sy (tk_k c n) (tk_n c n) (m + 1) true i out st own = some res) : YOK c n v0 f0 g (gsY_X11_unit_1_J2 NF f g v w) own st res ∨ YBAD c n v0 f0 g (gsY_X11_unit_1_J2 NF f g v w) res := by
  have hk := tk_lt hc i
  have hf1 := YR.f1 h h0
  obtain ⟨t40, t2, _, _, _⟩ := tS40 _ hk
  have hr := fFl_r (tk_k c n i)
  have bad : ∀ r4 : Int32, gsY_X11_unit_1_J6 NF f g v w r4 = (upd (upd v 1 (nI (fFl (tk_k c n i)))) 2 (nI (tk_p c n i)), f, w, g) := fun r4 => by
    unfold gsY_X11_unit_1_J6
    rw [YR.wrong hc h0 h]
    show (if upd (upd v 1 (nI (fFl (tk_k c n i)))) 2 (nI (tk_p c n i)) 1 ≤ 0 then _ else _) = _
    rw [pk_un (show (1 : Nat) ≠ 2 by decide), pk_us, if_neg (nI_nle hr.1 (by omega))]
  have isBad : ¬ (fOp (tk_k c n i) = true ∧ own ≠ 30) → ∀ r4 : Int32, YBAD c n v0 f0 g (gsY_X11_unit_1_J6 NF f g v w r4) res := fun z r4 => by
    rw [sy_opF hn h40 z] at hs
    injection hs with hs
    exact ⟨_, i, _, f, w, hs.symm, hr.1, by omega, bad r4, YR.fail h⟩
  simp only [gsY_X11_unit_1_J2, hf1, h.1.2.1, yAsked hc h.1]
  rw [if_pos (show (0 : Int32) ≤ 0 by decide)]
  have J107 : fOp (tk_k c n i) = true → ∀ r4 : Int32, (tk_k c n i = 2 ∧ r4 = -1 ∨ (116 ≤ tk_k c n i ∧ tk_k c n i ≤ 121) ∧ r4 = nI (tk_k c n i - 116)) → YOK c n v0 f0 g (gsY_X11_unit_1_J107 NF f g v w r4) own st res ∨ YBAD c n v0 f0 g (gsY_X11_unit_1_J107 NF f g v w r4) res := fun hop r4 hr4 => by
    simp only [gsY_X11_unit_1_J107, YR.full h ho, hf1]
    by_cases e30 : own = 30
    · rw [if_pos e30, ite11]
      exact Or.inr (isBad (fun z => z.2 e30) r4)
    · rw [if_neg e30, ite01, if_pos (show (0 : Int32) ≤ 0 by decide)]
      rw [sy_op hop e30] at hs
      obtain ⟨v1, e1, x1⟩ := YR.count (NF := NF) (g := g) h
      have h17 : tk_k c n i = 2 → v1 7 = tk_n c n i := fun z => x1.1.2.2.2.1 z
      simp only [e1]
      have h1 : tk_k c n i ≠ 1 := by rcases hr4 with z | z <;> omega
      rcases hr4 with ⟨z1, z2⟩ | ⟨z1, z2⟩
      · rw [if_neg (show ¬ (0 : Int32) ≤ r4 by rw [z2]; decide), if_neg (show ¬ (0 : Int32) ≤ r4 by rw [z2]; decide)]
        obtain ⟨v2, f2, e2, x2, _, _⟩ := YR.add (NF := NF) (g := g) (k := tk_k c n i) (x := tk_n c n i) (a := 0) (y := v1 7) (by rw [z1]; rfl) (by rw [h17 z1, z1]; rfl) (by omega) x1
        have e2 : gsY_X11_add_1 NF 0 (v1 7) v1 f w g = (v2, f2, w, g) := e2
        obtain ⟨v3, w3, e3, x3⟩ := YR.tok (NF := NF) (g := g) T x2 h1
        simp only [e2, e3]
        rw [if_pos z1] at hs
        exact Or.inl ⟨m, i + 1, _, st, own + 1, v3, f2, w3, rfl, x3, hs, by omega, by omega, hd, rfl, by rw [List.length_append, List.length_singleton]; omega⟩
      · have hp : (0 : Int32) ≤ r4 := by rw [z2]; exact nI_pos' (by omega)
        rw [if_pos hp, if_pos hp]
        obtain ⟨v2, f2, e2, x2, _, _⟩ := YR.add (NF := NF) (g := g) (k := tk_k c n i) (x := 0) (a := 1) (y := r4) (by unfold eA; rw [if_neg (by omega), if_pos z1]) (by unfold eB; rw [if_neg (by omega), if_pos z1, z2]) (by omega) x1
        have e2 : gsY_X11_add_1 NF 1 r4 v1 f w g = (v2, f2, w, g) := e2
        obtain ⟨v3, w3, e3, x3⟩ := YR.tok (NF := NF) (g := g) T x2 h1
        simp only [e2, e3]
        rw [if_neg (by omega)] at hs
        exact Or.inl ⟨m, i + 1, _, st, own + 1, v3, f2, w3, rfl, x3, hs, by omega, by omega, hd, rfl, by rw [List.length_append, List.length_singleton]; omega⟩
  by_cases e2 : tk_k c n i = 2
  · rw [if_pos (t2.mpr e2), if_neg (by omega)]
    exact J107 (by rw [e2]; decide) _ (Or.inl ⟨e2, rfl⟩)
  · rw [if_neg (fun z => e2 (t2.mp z))]
    by_cases e3 : 116 ≤ tk_k c n i ∧ tk_k c n i ≤ 121
    · rw [if_pos e3, if_neg (nI_pos (by omega))]
      exact J107 (by simp [fOp]; omega) _ (Or.inr ⟨e3, rfl⟩)
    · rw [if_neg e3, if_pos (show (-1 : Int32) < 0 by decide)]
      exact Or.inr (isBad (fun z => by have := z.1; simp [fOp] at this; omega) _)
theorem yUnit (T : TY c n v0 f0) (hc : ∀ k, k < n → c k < 256) (h0 : v0 1 = 0) {res : Nat × Nat × List (Nat × Int32) × Nat} : ∀ (fu m i own : Nat) (out : List (Nat × Int32)) (st : List Nat) (v : Nat → Int32) (f : Nat → Nat → Int32) (w : Int64), YR c n v0 f0 v f w i out st own → own ≤ 30 → fDp st ≤ 7 → out.length + st.length ≤ 10 * own + fDp st + 1 → 8 - fDp st < fu → sy (tk_k c n) (tk_n c n) m true i out st own = some res → YOK c n v0 f0 g (gsY_X11_unit_1_L1 NF fu 1 v f w g) own st res ∨ YBAD c n v0 f0 g (gsY_X11_unit_1_L1 NF fu 1 v f w g) res := by
  intro fu
  induction fu with
  | zero => intro m i own out st v f w _ _ _ _ h; exact absurd h (Nat.not_lt_zero _)
  | succ fu ih =>
    intro m i own out st v f w h ho hd hb hf hs
    have hk := tk_lt hc i
    have hf1 := YR.f1 h h0
    have hst : st.length < 1000 := by omega
    obtain ⟨t40, t2, _, _, _⟩ := tS40 _ hk
    have hr := fFl_r (tk_k c n i)
    obtain ⟨m, rfl⟩ : ∃ q, m = q + 1 := by
      rcases m with _ | q
      · exact absurd hs (by simp [sy])
      · exact ⟨q, rfl⟩
    obtain ⟨fu, rfl⟩ : ∃ q, fu = q + 1 := ⟨fu - 1, by omega⟩
    have h14 : v 14 = nI (fDp st) := h.2.2.2.2.2.2.2.1
    rw [gsY_X11_unit_1_L1, if_neg (show ¬ (1 : Int32) = 0 by decide), if_pos hf1, yIsW hc h.1 (k := 115) (by decide) (by decide) (by decide +kernel), yMay h.2.2.2.2.2.2.2.2.2 h.2.2.2.2.1 hst, h14]
    have other : (tk_k c n i = 115 → fMay st = false) → YOK c n v0 f0 g (gsY_X11_unit_1_J204 NF f g 1 v w (fun z0 z1 z2 z3 z4 => gsY_X11_unit_1_L1 NF (fu + 1) z0 z1 z2 z3 z4)) own st res ∨ YBAD c n v0 f0 g (gsY_X11_unit_1_J204 NF f g 1 v w (fun z0 z1 z2 z3 z4 => gsY_X11_unit_1_L1 NF (fu + 1) z0 z1 z2 z3 z4)) res := fun hn => by
      simp only [gsY_X11_unit_1_J204, h.1.2.1, YR.full h ho, h14]
      by_cases e40 : tk_k c n i = 40
      · rw [if_pos (t40.mpr e40)]
        have bad : (own = 30 ∨ 6 < fDp st) → ∃ v' f' w', YF c n v0 f0 v' f' (fFl (tk_k c n i)) i ∧ (match gsY_X11_wrong_1 NF 2 v f w g with | (v264, f265, w266, g267) => match gsY_X11_countUnit_1 NF v264 f265 w266 g267 with | (v275, f276, w277, g278) => match gsY_X11_openUp_1 NF 20 v275 f276 w277 g278 with | (v284, f285, w286, g287) => gsY_X11_unit_1_L1 NF (fu + 1) 1 v284 f285 w286 g287) = (v', f', w', g) := fun _ => by
          rw [YR.wrong hc h0 h]
          simp only [gsY_X11_countUnit_1]
          have y1 := (YR.fail (s := fFl (tk_k c n i)) h).u (x := upd (upd v 1 (nI (fFl (tk_k c n i)))) 2 (nI (tk_p c n i)) 11 + 1) (y := upd (upd v 1 (nI (fFl (tk_k c n i)))) 2 (nI (tk_p c n i)) 13 + 1)
          rw [yOpenF y1.1 hr.1 (by omega)]
          refine ⟨_, _, _, ?_, yU_f ((pk_un (by decide)).trans ((pk_un (by decide)).trans y1.1)) hr.1 (by omega) fu⟩
          exact y1.o
        by_cases e30 : own = 30
        · rw [if_pos e30, ite11]
          obtain ⟨v', f', w', y, e⟩ := bad (Or.inl e30)
          rw [sy_brF e40 (Or.inl e30)] at hs
          injection hs with hs
          exact Or.inr ⟨_, i, v', f', w', hs.symm, hr.1, by omega, e, y⟩
        · rw [if_neg e30, ite01]
          by_cases e6 : fDp st ≤ 6
          · rw [if_pos (show nI (fDp st) ≤ (6 : Int32) from nI_le (b := 6) e6 (by omega))]
            rw [sy_br e40 e30 e6] at hs
            obtain ⟨v1, e1, x1⟩ := YR.count (NF := NF) (g := g) h
            obtain ⟨v2, f2, w2, e2, x2⟩ := YR.openUp (NF := NF) (g := g) T h0 x1 (Or.inr rfl) (by omega) hst
            have e2 : gsY_X11_openUp_1 NF 20 v1 f w g = (v2, f2, w2, g) := e2
            simp only [e1, e2]
            have d1 : fDp (40 :: st) = fDp st + 1 := by show (if (40 : Nat) = 115 ∨ (40 : Nat) = 40 then 1 else 0) + fDp st = _; rw [if_pos (Or.inr rfl), Nat.add_comm]
            rcases ih m (i + 1) (own + 1) out (40 :: st) v2 f2 w2 x2 (by omega) (by omega) (by rw [List.length_cons]; omega) (by omega) hs with ⟨m', i', o', s', w', a1, a2, a3, b1, b2, b3, b4, b5, b6, b7, b8⟩ | q
            · rw [List.length_cons] at b7
              exact Or.inl ⟨m', i', o', s', w', a1, a2, a3, b1, b2, b3, by omega, b5, b6, by omega, b8⟩
            · exact Or.inr q
          · rw [if_neg (show ¬ nI (fDp st) ≤ (6 : Int32) from nI_ge (a := 6) (by omega) (by omega))]
            obtain ⟨v', f', w', y, e⟩ := bad (Or.inr (by omega))
            rw [sy_brF e40 (Or.inr (by omega))] at hs
            injection hs with hs
            exact Or.inr ⟨_, i, v', f', w', hs.symm, hr.1, by omega, e, y⟩
      · rw [if_neg (fun z => e40 (t40.mp z))]
        have e : gsY_X11_unit_1_L1 NF (fu + 1) 0 v f w g = gsY_X11_unit_1_J2 NF f g v w := by rw [gsY_X11_unit_1_L1, if_pos rfl]
        rw [e]
        exact yUnitEnd (NF := NF) T hc h0 h ho hd hb hn e40 hs
    by_cases e115 : tk_k c n i = 115
    · rw [if_pos e115, ite11]
      by_cases hm : fMay st = true
      · rw [if_pos hm, ite11]
        by_cases e6 : fDp st ≤ 6
        · rw [if_pos (show nI (fDp st) ≤ (6 : Int32) from nI_le (b := 6) e6 (by omega))]
          rw [sy_not e115 hm e6] at hs
          obtain ⟨v2, f2, w2, e2, x2⟩ := YR.openUp (NF := NF) (g := g) T h0 h (Or.inl rfl) (by omega) hst
          have e2 : gsY_X11_openUp_1 NF 21 v f w g = (v2, f2, w2, g) := e2
          simp only [e2]
          have d1 : fDp (115 :: st) = fDp st + 1 := by show (if (115 : Nat) = 115 ∨ (115 : Nat) = 40 then 1 else 0) + fDp st = _; rw [if_pos (Or.inl rfl), Nat.add_comm]
          rcases ih m (i + 1) own out (115 :: st) v2 f2 w2 x2 ho (by omega) (by rw [List.length_cons]; omega) (by omega) hs with ⟨m', i', o', s', w', a1, a2, a3, b1, b2, b3, b4, b5, b6, b7, b8⟩ | q
          · rw [List.length_cons] at b7
            exact Or.inl ⟨m', i', o', s', w', a1, a2, a3, b1, b2, b3, b4, b5, b6, by omega, b8⟩
          · exact Or.inr q
        · rw [if_neg (show ¬ nI (fDp st) ≤ (6 : Int32) from nI_ge (a := 6) (by omega) (by omega)), YR.wrong hc h0 h]
          have y1 := YR.fail (s := fFl (tk_k c n i)) h
          show YOK c n v0 f0 g (match gsY_X11_openUp_1 NF 21 (upd (upd v 1 (nI (fFl (tk_k c n i)))) 2 (nI (tk_p c n i))) f w g with | (v326, f327, w328, g329) => gsY_X11_unit_1_L1 NF (fu + 1) 1 v326 f327 w328 g329) own st res ∨ YBAD c n v0 f0 g (match gsY_X11_openUp_1 NF 21 (upd (upd v 1 (nI (fFl (tk_k c n i)))) 2 (nI (tk_p c n i))) f w g with | (v326, f327, w328, g329) => gsY_X11_unit_1_L1 NF (fu + 1) 1 v326 f327 w328 g329) res
          rw [yOpenF y1.1 hr.1 (by omega)]
          rw [sy_notF e115 hm (by omega)] at hs
          injection hs with hs
          refine Or.inr ⟨_, i, _, _, _, hs.symm, hr.1, by omega, yU_f ((pk_un (by decide)).trans ((pk_un (by decide)).trans y1.1)) hr.1 (by omega) fu, ?_⟩
          exact y1.o
      · rw [if_neg hm, ite01]
        exact other (fun _ => Bool.eq_false_iff.mpr hm)
    · rw [if_neg e115, ite01]
      exact other (fun z => absurd z e115)
end
end
