def wfP (k : Nat) : Bool := k == 2 || (decide (116 ≤ k) && decide (k ≤ 121))
def wfS : List (Nat × Int32) → Nat → Option Nat
  | [], d => some d
  | x :: l, d => if wfP x.1 = true then wfS l (d + 1) else if x.1 = 115 then (if 1 ≤ d then wfS l d else none) else (if 2 ≤ d then wfS l (d - 1) else none)
def wfN : List (Nat × Int32) → Nat
  | [] => 0
  | x :: l => (if wfP x.1 = true then 1 else 0) + wfN l
def okK (k : Nat) : Prop := wfP k = true ∨ k = 115 ∨ fSg k = true
def WFo (out : List (Nat × Int32)) (own : Nat) : Prop := wfS out 0 = some 1 ∧ wfN out ≤ own ∧ ∀ x ∈ out, okK x.1
theorem wfS_app : ∀ (l m : List (Nat × Int32)) (d e : Nat), wfS l d = some e → wfS (l ++ m) d = wfS m e := by
  intro l
  induction l with
  | nil => intro m d e h; simp only [wfS] at h; injection h with h; rw [List.nil_append, h]
  | cons x l ih =>
    intro m d e h
    rw [List.cons_append]
    simp only [wfS] at h ⊢
    by_cases c1 : wfP x.1 = true
    · rw [if_pos c1] at h ⊢; exact ih m _ e h
    · rw [if_neg c1] at h ⊢
      by_cases c2 : x.1 = 115
      · rw [if_pos c2] at h ⊢
        by_cases c3 : 1 ≤ d
        · rw [if_pos c3] at h ⊢; exact ih m _ e h
        · rw [if_neg c3] at h; cases h
      · rw [if_neg c2] at h ⊢
        by_cases c3 : 2 ≤ d
        · rw [if_pos c3] at h ⊢; exact ih m _ e h
        · rw [if_neg c3] at h; cases h
theorem wfN_app : ∀ (l m : List (Nat × Int32)), wfN (l ++ m) = wfN l + wfN m := by
  intro l
  induction l with
  | nil => intro m; simp [wfN]
  | cons x l ih => intro m; rw [List.cons_append]; simp only [wfN, ih]; omega
def wfB : List Nat → Nat
  | [] => 0
  | a :: l => (if a = 40 ∨ a = 115 then 0 else 1) + wfB l
def wfV (a : Nat) : Prop := a = 40 ∨ a = 115 ∨ fSg a = true
theorem wf_sg : ∀ k, k < 256 → fSg k = true → wfP k = false ∧ k ≠ 40 ∧ k ≠ 115 := by decide +kernel
theorem wf_sg' {k : Nat} (h : fSg k = true) : wfP k = false ∧ k ≠ 40 ∧ k ≠ 115 := by
  have hk : k < 256 := by
    simp only [fSg, List.contains_eq_mem, decide_eq_true_eq, List.mem_cons, List.mem_nil_iff, or_false] at h
    omega
  exact wf_sg k hk h
theorem wfV.p {a : Nat} (h : wfV a) : wfP a = false := by
  rcases h with h | h | h
  · rw [h]; decide
  · rw [h]; decide
  · exact (wf_sg' h).1
theorem wfV.k {a : Nat} (h : wfV a) (h4 : a ≠ 40) : okK a := Or.inr (h.resolve_left h4)
theorem okK_app {l m : List (Nat × Int32)} (h : ∀ x ∈ l, okK x.1) (h' : ∀ x ∈ m, okK x.1) : ∀ x ∈ l ++ m, okK x.1 := fun x hx => (List.mem_append.mp hx).elim (h x) (h' x)
theorem wf_cls {t : Nat} : ∀ (st : List Nat) (out : List (Nat × Int32)) (own : Nat), (∀ a ∈ st, wfV a) → wfS out 0 = some (wfB st + 1) → wfN out ≤ own → (∀ x ∈ out, okK x.1) → wfS (fCls t out st).1 0 = some (wfB (fCls t out st).2 + 1) ∧ wfN (fCls t out st).1 ≤ own ∧ (∀ a ∈ (fCls t out st).2, wfV a) ∧ ∀ x ∈ (fCls t out st).1, okK x.1 := by
  intro st
  induction st with
  | nil => intro out own hv h1 h2 ho; exact ⟨h1, h2, hv, ho⟩
  | cons a l ih =>
    intro out own hv h1 h2 ho
    by_cases c : a = 40 ∨ fTg a < t
    · have e : fCls t out (a :: l) = (out, a :: l) := if_pos c
      rw [e]
      exact ⟨h1, h2, hv, ho⟩
    · have e : fCls t out (a :: l) = fCls t (out ++ [(a, 0)]) l := if_neg c
      rw [e]
      have vv := hv a (List.mem_cons_self ..)
      have va : wfP a = false := vv.p
      have vn : ¬ wfP a = true := by rw [va]; decide
      have a40 : a ≠ 40 := fun z => c (Or.inl z)
      refine ih (out ++ [(a, 0)]) own (fun b hb => hv b (List.mem_cons_of_mem _ hb)) ?_ ?_ (okK_app ho (fun x hx => by rw [List.mem_singleton.mp hx]; exact vv.k a40))
      · rw [wfS_app _ _ _ _ h1]
        show (if wfP a = true then wfS [] (wfB (a :: l) + 1 + 1) else if a = 115 then (if 1 ≤ wfB (a :: l) + 1 then wfS [] (wfB (a :: l) + 1) else none) else (if 2 ≤ wfB (a :: l) + 1 then wfS [] (wfB (a :: l) + 1 - 1) else none)) = some (wfB l + 1)
        have eB : wfB (a :: l) = (if a = 40 ∨ a = 115 then 0 else 1) + wfB l := rfl
        rw [if_neg vn]
        by_cases c2 : a = 115
        · rw [if_pos (Or.inr c2)] at eB
          rw [if_pos c2, if_pos (by omega)]
          show some (wfB (a :: l) + 1) = some (wfB l + 1)
          rw [eB, Nat.zero_add]
        · rw [if_neg (fun z => z.elim a40 c2)] at eB
          rw [if_neg c2, if_pos (by omega)]
          show some (wfB (a :: l) + 1 - 1) = some (wfB l + 1)
          congr 1
          omega
      · rw [wfN_app]
        have e1 : wfN [(a, (0 : Int32))] = 0 := by
          show (if wfP a = true then 1 else 0) + 0 = 0
          rw [if_neg vn]
        omega
theorem wf_head {t : Nat} (ht : t = 0) : ∀ (st : List Nat) (out : List (Nat × Int32)), wfB (fCls t out st).2.tail = wfB (fCls t out st).2 := by
  intro st
  induction st with
  | nil => intro out; rfl
  | cons a l ih =>
    intro out
    by_cases c : a = 40 ∨ fTg a < t
    · have e : fCls t out (a :: l) = (out, a :: l) := if_pos c
      have a40 : a = 40 := c.elim id (fun z => by omega)
      rw [e, a40]
      show wfB l = (if 40 = 40 ∨ 40 = 115 then 0 else 1) + wfB l
      rw [if_pos (Or.inl rfl), Nat.zero_add]
    · have e : fCls t out (a :: l) = fCls t (out ++ [(a, 0)]) l := if_neg c
      rw [e]
      exact ih _
theorem wf_noB : ∀ (st : List Nat) (out : List (Nat × Int32)), fHasB st = false → (fCls 0 out st).2 = [] := by
  intro st
  induction st with
  | nil => intro out _; rfl
  | cons a l ih =>
    intro out h
    have h1 : ¬ a = 40 := fun z => by rw [z] at h; simp [fHasB] at h
    have h2 : fHasB l = false := by
      simp only [fHasB, List.contains_cons, Bool.or_eq_false_iff] at h ⊢
      exact h.2
    have e : fCls 0 out (a :: l) = fCls 0 (out ++ [(a, 0)]) l := if_neg (fun z => z.elim h1 (fun q => by omega))
    rw [e]
    exact ih _ h2
theorem sy_wf {K : Nat → Nat} {N : Nat → Int32} : ∀ (m : Nat) (b : Bool) (i : Nat) (out : List (Nat × Int32)) (st : List Nat) (own : Nat) {j own' : Nat} {out' : List (Nat × Int32)}, sy K N m b i out st own = some (0, j, out', own') → (∀ a ∈ st, wfV a) → wfS out 0 = some (wfB st + (if b = true then 0 else 1)) → wfN out ≤ own → (∀ x ∈ out, okK x.1) → WFo out' own' := by
  intro m
  induction m with
  | zero => intro b i out st own j own' out' h; cases h
  | succ m ih =>
    intro b i out st own j own' out' h hv h1 h2 ho
    have nf : ∀ k, ¬ fFl k = 0 := fun k z => by unfold fFl at z; by_cases e : k = 1 <;> simp [e] at z
    have bad : ∀ k (z : Nat), some (fFl k, z, ([] : List (Nat × Int32)), 0) = some (0, j, out', own') → False := fun k z q => by
      injection q with q
      exact nf k (congrArg (fun u => u.1) q)
    cases b with
    | true =>
      rw [if_pos rfl] at h1
      simp only [sy] at h
      by_cases c1 : K i = 115 ∧ fMay st = true
      · rw [if_pos c1] at h
        by_cases c2 : 6 < fDp st
        · rw [if_pos c2] at h; exact (bad _ _ h).elim
        · rw [if_neg c2] at h
          refine ih true _ _ _ _ h (fun a ha => ?_) ?_ h2 ho
          · rcases List.mem_cons.mp ha with e | e
            · exact Or.inr (Or.inl e)
            · exact hv a e
          · rw [if_pos rfl, h1]
            show some (wfB st + 0) = some ((if 115 = 40 ∨ 115 = 115 then 0 else 1) + wfB st + 0)
            rw [if_pos (Or.inr rfl), Nat.zero_add]
      · rw [if_neg c1] at h
        by_cases c2 : K i = 40
        · rw [if_pos c2] at h
          by_cases c3 : own = 30 ∨ 6 < fDp st
          · rw [if_pos c3] at h; exact (bad _ _ h).elim
          · rw [if_neg c3] at h
            refine ih true _ _ _ _ h (fun a ha => ?_) ?_ (by omega) ho
            · rcases List.mem_cons.mp ha with e | e
              · exact Or.inl e
              · exact hv a e
            · rw [if_pos rfl, h1]
              show some (wfB st + 0) = some ((if 40 = 40 ∨ 40 = 115 then 0 else 1) + wfB st + 0)
              rw [if_pos (Or.inl rfl), Nat.zero_add]
        · rw [if_neg c2] at h
          by_cases c3 : fOp (K i) = true ∧ own ≠ 30
          · rw [if_pos c3] at h
            have p : wfP (K i) = true := c3.1
            refine ih false _ _ _ _ h hv ?_ ?_ (okK_app ho (fun x hx => by rw [List.mem_singleton.mp hx]; exact Or.inl p))
            · rw [wfS_app _ _ _ _ h1]
              show (if wfP (K i) = true then wfS [] (wfB st + 0 + 1) else _) = some (wfB st + (if false = true then 0 else 1))
              rw [if_pos p]
              rfl
            · rw [wfN_app]
              have e1 : wfN [(K i, if K i = 2 then N i else 0)] = 1 := by
                show (if wfP (K i) = true then 1 else 0) + 0 = 1
                rw [if_pos p]
              omega
          · rw [if_neg c3] at h; exact (bad _ _ h).elim
    | false =>
      have h1 : wfS out 0 = some (wfB st + 1) := h1
      simp only [sy] at h
      by_cases c1 : K i = 41 ∧ fHasB st = true
      · rw [if_pos c1] at h
        obtain ⟨q1, q2, q3, q4⟩ := wf_cls (t := 0) st out own hv h1 h2 ho
        refine ih false _ _ _ _ h (fun a ha => q3 a (List.mem_of_mem_tail ha)) ?_ q2 q4
        rw [wf_head rfl]
        exact q1
      · rw [if_neg c1] at h
        by_cases c2 : fSg (K i) = true ∧ ¬ (fTg (K i) = 4 ∧ fHasR st = true)
        · rw [if_pos c2] at h
          obtain ⟨q1, q2, q3, q4⟩ := wf_cls (t := fTg (K i)) st out own hv h1 h2 ho
          obtain ⟨g1, g2, g3⟩ := wf_sg' c2.1
          refine ih true _ _ _ _ h (fun a ha => ?_) ?_ q2 q4
          · rcases List.mem_cons.mp ha with e | e
            · rw [e]; exact Or.inr (Or.inr c2.1)
            · exact q3 a e
          · rw [q1, if_pos rfl]
            show _ = some ((if K i = 40 ∨ K i = 115 then 0 else 1) + wfB (fCls (fTg (K i)) out st).2 + 0)
            rw [if_neg (fun z => z.elim g2 g3)]
            congr 1
            omega
        · rw [if_neg c2] at h
          by_cases c3 : fHasB st = true
          · rw [if_pos c3] at h; exact (bad _ _ h).elim
          · rw [if_neg c3] at h
            obtain ⟨q1, q2, q3, q4⟩ := wf_cls (t := 0) st out own hv h1 h2 ho
            rw [wf_noB st out (Bool.eq_false_iff.mpr c3)] at q1
            injection h with h
            have e1 := congrArg (fun u => u.2.2.1) h
            have e2 := congrArg (fun u => u.2.2.2) h
            have e1 : (fCls 0 out st).1 = out' := e1
            have e2 : own = own' := e2
            rw [← e1, ← e2]
            exact ⟨q1, q2, q4⟩
