section
variable {NF : Nat}
def fTg (k : Nat) : Nat := if k = 113 then 1 else if k = 114 then 2 else if k = 115 then 3 else if k = 60 ∨ k = 62 ∨ k = 61 then 4 else if k = 43 ∨ k = 45 then 5 else 6
def fSg (k : Nat) : Bool := [113, 114, 60, 62, 61, 43, 45, 42, 47, 37].contains k
def fOp (k : Nat) : Bool := k == 2 || (decide (116 ≤ k) && decide (k ≤ 121))
def fDp : List Nat → Nat
  | [] => 0
  | a :: l => (if a = 115 ∨ a = 40 then 1 else 0) + fDp l
def fNb : List Nat → Nat
  | [] => 0
  | a :: l => (if a = 40 then 0 else 1) + fNb l
def fMay : List Nat → Bool
  | [] => true
  | a :: _ => a == 40 || decide (fTg a < 4)
def fHasR : List Nat → Bool
  | [] => false
  | a :: l => if a = 40 then false else if 4 < fTg a then fHasR l else decide (fTg a = 4)
def fHasB (l : List Nat) : Bool := l.contains 40
def fCls (t : Nat) : List (Nat × Int32) → List Nat → List (Nat × Int32) × List Nat
  | out, [] => (out, [])
  | out, a :: l => if a = 40 ∨ fTg a < t then (out, a :: l) else fCls t (out ++ [(a, 0)]) l
def fFl (k : Nat) : Nat := if k = 1 then 1 else 2
def sy (K : Nat → Nat) (N : Nat → Int32) : Nat → Bool → Nat → List (Nat × Int32) → List Nat → Nat → Option (Nat × Nat × List (Nat × Int32) × Nat)
  | 0, _, _, _, _, _ => none
  | m + 1, true, i, out, st, own =>
    if K i = 115 ∧ fMay st = true then (if 6 < fDp st then some (fFl (K i), i, [], 0) else sy K N m true (i + 1) out (115 :: st) own)
    else if K i = 40 then (if own = 30 ∨ 6 < fDp st then some (fFl (K i), i, [], 0) else sy K N m true (i + 1) out (40 :: st) (own + 1))
    else if fOp (K i) = true ∧ own ≠ 30 then sy K N m false (i + 1) (out ++ [(K i, if K i = 2 then N i else 0)]) st (own + 1)
    else some (fFl (K i), i, [], 0)
  | m + 1, false, i, out, st, own =>
    if K i = 41 ∧ fHasB st = true then sy K N m false (i + 1) (fCls 0 out st).1 (fCls 0 out st).2.tail own
    else if fSg (K i) = true ∧ ¬ (fTg (K i) = 4 ∧ fHasR st = true) then sy K N m true (i + 1) (fCls (fTg (K i)) out st).1 (K i :: (fCls (fTg (K i)) out st).2) own
    else if fHasB st = true then some (fFl (K i), i, [], 0)
    else some (0, i, (fCls 0 out st).1, own)
def fMp (P : List Nat) : List (Nat × Int32) := P.map (fun a => (a, 0))
theorem fMp_len (P : List Nat) : (fMp P).length = P.length := List.length_map ..
theorem fMp_app (P Q : List Nat) : fMp (P ++ Q) = fMp P ++ fMp Q := List.map_append ..
def fLow (t : Nat) (st : List Nat) : Prop := st = [] ∨ ∃ a l, st = a :: l ∧ (a = 40 ∨ fTg a < t)
theorem fLow.mono {t u : Nat} {st : List Nat} (h : fLow t st) (hu : t ≤ u) : fLow u st := by
  rcases h with h | ⟨a, l, e, h⟩
  · exact Or.inl h
  · exact Or.inr ⟨a, l, e, h.imp (fun z => z) (fun z => by omega)⟩
theorem fCls_stop {t : Nat} {out : List (Nat × Int32)} {st : List Nat} (h : fLow t st) : fCls t out st = (out, st) := by
  rcases h with rfl | ⟨a, l, rfl, h⟩
  · rfl
  · show (if a = 40 ∨ fTg a < t then (out, a :: l) else fCls t (out ++ [(a, 0)]) l) = _
    rw [if_pos h]
theorem fCls_app {t : Nat} {st : List Nat} (h : fLow t st) : ∀ (P : List Nat) (out : List (Nat × Int32)), (∀ a ∈ P, a ≠ 40 ∧ t ≤ fTg a) → fCls t out (P ++ st) = (out ++ fMp P, st) := by
  intro P
  induction P with
  | nil => intro out _; rw [List.nil_append, fCls_stop h]; simp [fMp]
  | cons a P ih =>
    intro out hP
    have ha := hP a (by simp)
    show (if a = 40 ∨ fTg a < t then (out, a :: (P ++ st)) else fCls t (out ++ [(a, 0)]) (P ++ st)) = _
    rw [if_neg (fun z => z.elim ha.1 (fun q => by omega)), ih _ (fun b hb => hP b (by simp [hb]))]
    simp [fMp]
theorem fHasR_app {st : List Nat} : ∀ (P : List Nat), (∀ a ∈ P, a ≠ 40 ∧ 4 < fTg a) → fHasR (P ++ st) = fHasR st := by
  intro P
  induction P with
  | nil => intro _; rfl
  | cons a P ih =>
    intro hP
    have ha := hP a (by simp)
    show (if a = 40 then false else if 4 < fTg a then fHasR (P ++ st) else decide (fTg a = 4)) = _
    rw [if_neg ha.1, if_pos ha.2, ih (fun b hb => hP b (by simp [hb]))]
theorem fHasR_low {st : List Nat} (h : fLow 4 st) : fHasR st = false := by
  rcases h with rfl | ⟨a, l, rfl, h⟩
  · rfl
  · show (if a = 40 then false else if 4 < fTg a then fHasR l else decide (fTg a = 4)) = false
    by_cases e : a = 40
    · rw [if_pos e]
    · have h := h.resolve_left e
      rw [if_neg e, if_neg (by omega), decide_eq_false (by omega)]
theorem fNb_app : ∀ (P : List Nat) (st : List Nat), (∀ a ∈ P, a ≠ 40) → fNb (P ++ st) = P.length + fNb st := by
  intro P
  induction P with
  | nil => intro st _; simp
  | cons a P ih =>
    intro st hP
    have ha := hP a (by simp)
    show (if a = 40 then 0 else 1) + fNb (P ++ st) = _
    rw [if_neg ha, ih st (fun b hb => hP b (by simp [hb])), List.length_cons]
    omega
theorem fNb_P {P : List Nat} (h : ∀ a ∈ P, a ≠ 40) : fNb P = P.length := by
  have := fNb_app P [] h
  rw [List.append_nil] at this
  exact this
theorem fHasB_app (P st : List Nat) : fHasB (P ++ 40 :: st) = true := by simp [fHasB]
def OUTX (out : List (Nat × Int32)) (f : Nat → Nat → Int32) : Prop := ∀ j, j < out.length → f 3 j = nI (out.getD j (0, 0)).1 ∧ ((out.getD j (0, 0)).1 = 2 → f 4 j = (out.getD j (0, 0)).2)
def XS (c : Nat → Nat) (n : Nat) (v0 : Nat → Int32) (f0 : Nat → Nat → Int32) (v : Nat → Int32) (f : Nat → Nat → Int32) (i : Nat) (out : List (Nat × Int32)) (own : Nat) : Prop := CX c n i v ∧ (∀ k, k ≠ 2 → k ≠ 3 → k ≠ 4 → k ≠ 5 → k ≠ 16 → k ≠ 17 → v k = v0 k) ∧ (∀ q, q ≠ 3 → q ≠ 4 → f q = f0 q) ∧ v 16 = nI out.length ∧ v 17 = nI own ∧ OUTX out f
def XF (c : Nat → Nat) (n : Nat) (v0 : Nat → Int32) (f0 : Nat → Nat → Int32) (v : Nat → Int32) (f : Nat → Nat → Int32) (s j : Nat) : Prop := v 7 = nI s ∧ v 8 = nI (tk_p c n j) ∧ (∀ k, k ≠ 2 → k ≠ 3 → k ≠ 4 → k ≠ 5 → k ≠ 7 → k ≠ 8 → k ≠ 16 → k ≠ 17 → v k = v0 k) ∧ (∀ q, q ≠ 3 → q ≠ 4 → f q = f0 q)
theorem XS.t {c : Nat → Nat} {n : Nat} {v0 v : Nat → Int32} {f0 f : Nat → Nat → Int32} {i own : Nat} {out : List (Nat × Int32)} (T : TX c n v0 f0) (h : XS c n v0 f0 v f i out own) : TX c n v f := T.of (h.2.1 1 (by decide) (by decide) (by decide) (by decide) (by decide) (by decide)) (h.2.2.1 0 (by decide) (by decide))
theorem XS.adv {c : Nat → Nat} {n : Nat} {v0 v : Nat → Int32} {f0 f : Nat → Nat → Int32} {i own : Nat} {out : List (Nat × Int32)} (T : TX c n v0 f0) (h : XS c n v0 f0 v f i out own) : ∃ v', gsX_X9_advance_1 NF v f = (v', f) ∧ XS c n v0 f0 v' f (i + 1) out own := by
  obtain ⟨v', e, a, b⟩ := advX (NF := NF) (i := i) (XS.t T h) h.1.2.2.1
  obtain ⟨h1, h2, h3, h4, h5, h6⟩ := h
  exact ⟨v', e, a, fun k k2 k3 k4 k5 k16 k17 => (b k k2 k3 k4 k5).trans (h2 k k2 k3 k4 k5 k16 k17), h3, (b 16 (by decide) (by decide) (by decide) (by decide)).trans h4, (b 17 (by decide) (by decide) (by decide) (by decide)).trans h5, h6⟩
theorem XS.ref {c : Nat → Nat} {n : Nat} {v0 v : Nat → Int32} {f0 f : Nat → Nat → Int32} {i own : Nat} {out : List (Nat × Int32)} (hc : ∀ k, k < n → c k < 256) (h : XS c n v0 f0 v f i out own) : ∃ v', gsX_X6_refuse_1 NF v f = (0, v', f) ∧ XF c n v0 f0 v' f (fFl (tk_k c n i)) i := by
  obtain ⟨⟨c1, c2, _, _⟩, h2, h3, h4, h5, h6⟩ := h
  have hk := tk_lt hc i
  refine ⟨upd (upd v 7 (nI (fFl (tk_k c n i)))) 8 (nI (tk_p c n i)), ?_, (pk_un (by decide)).trans pk_us, pk_us, fun k k2 k3 k4 k5 k7 k8 k16 k17 => (pk_un k8).trans ((pk_un k7).trans (h2 k k2 k3 k4 k5 k16 k17)), h3⟩
  simp only [gsX_X6_refuse_1, gsX_X6_refuseAs_1, c1, c2, ite01]
  unfold fFl
  by_cases e : tk_k c n i = 1
  · rw [if_pos (by rw [e]; rfl), if_pos e]; rfl
  · rw [if_neg (nlit 1 1 rfl (by omega) (by decide) e), if_neg e]; rfl
theorem getD_snoc {out : List (Nat × Int32)} {x : Nat × Int32} {j : Nat} : (out ++ [x]).getD j (0, 0) = if j < out.length then out.getD j (0, 0) else if j = out.length then x else (0, 0) := by
  by_cases h : j < out.length
  · rw [if_pos h]; simp [List.getD_eq_getElem?_getD, List.getElem?_append_left h]
  · rw [if_neg h]
    by_cases e : j = out.length
    · rw [if_pos e, e]; simp [List.getD_eq_getElem?_getD]
    · rw [if_neg e]
      simp only [List.getD_eq_getElem?_getD]
      rw [List.getElem?_eq_none (by simp; omega)]
      rfl
theorem XS.add {c : Nat → Nat} {n : Nat} {v0 v : Nat → Int32} {f0 f : Nat → Nat → Int32} {i own : Nat} {out : List (Nat × Int32)} {k : Nat} {x y : Int32} (h : XS c n v0 f0 v f i out own) (hl : out.length < 300) (hxy : k = 2 → x = y) : ∃ v' f', gsX_X4_add_1 NF (nI k) x v f = (v', f') ∧ XS c n v0 f0 v' f' i (out ++ [(k, y)]) own ∧ v' 17 = v 17 := by
  obtain ⟨⟨c1, c2, c3, c4⟩, h2, h3, h4, h5, h6⟩ := h
  refine ⟨upd v 16 (nI (out.length + 1)), upd2 (upd2 f 3 (upd (f 3) out.length (nI k))) 4 (upd (f 4) out.length x), ?_, ⟨⟨(pk_un (by decide)).trans c1, (pk_un (by decide)).trans c2, (pk_un (by decide)).trans c3, fun z => (pk_un (by decide)).trans (c4 z)⟩, fun k k2 k3 k4 k5 k16 k17 => (pk_un k16).trans (h2 k k2 k3 k4 k5 k16 k17), fun q q3 q4 => ?_, by rw [pk_us]; simp, (pk_un (by decide)).trans h5, fun j hj => ?_⟩, pk_un (by decide)⟩
  · simp only [gsX_X4_add_1, h4]
    rw [if_neg (show ¬ (300 : Int32) ≤ nI out.length from nI_ge (b := 300) hl (by omega)), nI_clamp (by omega), nI_1]
    rfl
  · show (if q = 4 then _ else if q = 3 then _ else f q) = f0 q
    rw [if_neg q4, if_neg q3]; exact h3 q q3 q4
  · rw [getD_snoc]
    show upd (f 3) out.length (nI k) j = _ ∧ (_ → upd (f 4) out.length x j = _)
    by_cases e : j < out.length
    · rw [if_pos e, pk_un (by omega), pk_un (by omega)]; exact h6 j e
    · have e2 : j = out.length := by simp at hj; omega
      rw [if_neg e, if_pos e2, e2, pk_us, pk_us]
      exact ⟨rfl, hxy⟩
end
