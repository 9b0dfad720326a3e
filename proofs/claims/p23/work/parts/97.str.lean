def R_law : String := "TailorRegimentLaw"
def lw_P (b : Addr) (xs : List Int32) (args : Array Value) (s : State) : Prop := args = #[.ref b] ∧ s.IntsAt b xs ∧ xs.length ≤ 3072 ∧ (Jvm.Cond.and given_1 narrow_1).before args s = true
def lw_Q (_ : Array Value) (s : State) (o : Outcome) (t : State) : Prop := o = .returned (some (.int 1)) ∧ Framed s o t [] 600000 7302250
def lw_Z (below : List Frame) (a : Array Value) (s : State) : State → Prop := fun t => ∃ o, t.status = .running ∧ Ended t below o ∧ lw_Q a s o t
/-- the law's own end, with 1 on the stack, nothing written that was there before, its room as the claim has it -/
theorem lw_ret {p : Program} {l : Launch} {e : Env} {s : State} {m : MethodId} {below : List Frame} {meth : Method} {c : Code} {b : Nat} (hx : p.tables.exec = Jvm.exec) (hb : c.code = code) (hr : meth.sig.returnType = ret) (hlocks : meth.locks = false) {pc : Nat} {H : Heap} {ls : Array Slot} (hdg : decode code pc = .ok (.ireturn, 1)) : W p l e room_1 s m #[Value.ref b] below meth c H [] 600000 7302250 (lw_Z below #[Value.ref b] s) (F0 m pc ls [.int 1]) := by
  intro T hT X
  obtain ⟨fs, hret, hrun, hended, hW, hframe⟩ := X.leave (v := some (.int 1)) (hlocks := hlocks) (fun h => by rw [hr] at h; cases h)
  have hmeth' : T.vm.method? m = some meth := X.method'
  refine ⟨T.setFrames fs, ?_, .returned (some (.int 1)), hrun, hended, rfl, ⟨_, rfl⟩, hW, hframe⟩
  jvm_step X.here [X.here.top, hx, hb, hdg, hmeth', hr, ret, narrow_b1]
  (try refine ⟨rfl, ?_⟩); (try refine ⟨rfl, ?_⟩)
  first | (intro acts; rw [hret _ acts rfl rfl rfl]) | rw [hret _ _ rfl rfl rfl]
  exact Steps.refl _
/-- what holds at the law's entry: the machine, the code, the tables' words (any of lw_tbl by 'hts w (by decide +kernel)'), the script of L ints xs at the cell b, what the Statement gives of the start (any of its parts by flat_of_before) -/
def lw_At (p : Program) (s : State) (m : MethodId) (meth : Method) (c : Code) (b L : Nat) (xs : Nat → Int32) : Prop :=
  p.tables.exec = Jvm.exec ∧ c.code = code ∧ meth.sig.returnType = ret ∧ c.maxLocals = 4 ∧ s.vm.findClass R_law = some m.cls ∧ (∀ w ∈ lw_tbl, w.before #[Value.ref b] s = true) ∧ va_X b L xs s s.heap ∧ b < s.heap.size ∧ meth.locks = false ∧ (Jvm.Cond.and given_1 narrow_1).before #[Value.ref b] s = true

theorem arr_known {a : Array Value} {s : State} {ty : FieldType} (hty : ∀ C, ty ≠ .object C) (h : (Cond.arrayClass ty).before a s = true) : ∃ cA : ClassId, ArrOfT s cA ty ∧ va_RA s cA ty := by
  obtain ⟨cA, kA, comp, h1, h2, h3⟩ := Cond.arrayClass_spec h
  refine ⟨cA, fun n z => ⟨fun k h => (by cases h), kA, h2, comp, h3⟩, ?_⟩
  cases ty <;> first | exact h1 | exact absurd rfl (hty _)
def sTM (i : Nat) : Term := if i = 0 then Term.string "TailorRegiment$Tape" 45 else Term.string "TailorRegiment$Tape" 53
set_option maxRecDepth 100000 in
theorem s_eg0 : ∀ j, j < 11 → (flatC (Jvm.Cond.and given_1 narrow_1))[119 + j]? = some (Cond.eq (.elem (.field (Term.string "TailorRegiment$Tape" 45) "java/lang/String" "value" "[B") (.int (Int32.ofNat j))) (.int ((sBYT.getD 0 []).getD j 0))) := by decide +kernel
theorem s_el0 : ∀ j, j < 11 → Cond.eq (.elem (.field (Term.string "TailorRegiment$Tape" 45) "java/lang/String" "value" "[B") (.int (Int32.ofNat j))) (.int ((sBYT.getD 0 []).getD j 0)) ∈ flatC (Jvm.Cond.and given_1 narrow_1) := fun j hj => List.mem_of_getElem? (s_eg0 j hj)
set_option maxRecDepth 100000 in
theorem s_eg1 : ∀ j, j < 102 → (flatC (Jvm.Cond.and given_1 narrow_1))[13 + j]? = some (Cond.eq (.elem (.field (Term.string "TailorRegiment$Tape" 53) "java/lang/String" "value" "[B") (.int (Int32.ofNat j))) (.int ((sBYT.getD 1 []).getD j 0))) := by decide +kernel
theorem s_el1 : ∀ j, j < 102 → Cond.eq (.elem (.field (Term.string "TailorRegiment$Tape" 53) "java/lang/String" "value" "[B") (.int (Int32.ofNat j))) (.int ((sBYT.getD 1 []).getD j 0)) ∈ flatC (Jvm.Cond.and given_1 narrow_1) := fun j hj => List.mem_of_getElem? (s_eg1 j hj)
set_option maxHeartbeats 4000000 in
set_option maxRecDepth 100000 in
theorem s_all {a : Array Value} {s : State} {A : Nat → Prop} (h : (Jvm.Cond.and given_1 narrow_1).before a s = true) (hA : ∀ q : Nat, q < s.heap.size → ¬ A q) : ∃ adK adV : Nat → Nat, vk_S 2 sLEN sBYT adK adV A s s.heap ∧ ∀ i : Nat, i < 2 → (sTM i).eval a s none [] s = some (.ref (adK i)) := by
  have hs := flat_of_before _ h
  refine vk_Sof (tm := sTM) ?_ ?_ ?_ ?_ ?_ ?_ ?_ hA
  · intro i hi
    match i, hi with
    | 0, _ => decide
    | 1, _ => decide
    | i + 2, hi => exact absurd hi (by omega)
  · intro i hi
    match i, hi with
    | 0, _ => exact hs (Cond.exactly (Term.string "TailorRegiment$Tape" 45) "java/lang/String") (by decide +kernel)
    | 1, _ => exact hs (Cond.exactly (Term.string "TailorRegiment$Tape" 53) "java/lang/String") (by decide +kernel)
    | i + 2, hi => exact absurd hi (by omega)
  · intro i hi
    match i, hi with
    | 0, _ => exact hs (Cond.eq (.field (Term.string "TailorRegiment$Tape" 45) "java/lang/String" "coder" "B") (.int 0)) (by decide +kernel)
    | 1, _ => exact hs (Cond.eq (.field (Term.string "TailorRegiment$Tape" 53) "java/lang/String" "coder" "B") (.int 0)) (by decide +kernel)
    | i + 2, hi => exact absurd hi (by omega)
  · intro i hi
    match i, hi with
    | 0, _ => exact hs (Cond.arrayOf (.field (Term.string "TailorRegiment$Tape" 45) "java/lang/String" "value" "[B") .byte) (by decide +kernel)
    | 1, _ => exact hs (Cond.arrayOf (.field (Term.string "TailorRegiment$Tape" 53) "java/lang/String" "value" "[B") .byte) (by decide +kernel)
    | i + 2, hi => exact absurd hi (by omega)
  · intro i hi
    match i, hi with
    | 0, _ => exact hs (Cond.eq (.length (.field (Term.string "TailorRegiment$Tape" 45) "java/lang/String" "value" "[B")) (.int 11)) (by decide +kernel)
    | 1, _ => exact hs (Cond.eq (.length (.field (Term.string "TailorRegiment$Tape" 53) "java/lang/String" "value" "[B")) (.int 102)) (by decide +kernel)
    | i + 2, hi => exact absurd hi (by omega)
  · intro i hi
    match i, hi with
    | 0, _ => exact fun j hj => hs _ (s_el0 j hj)
    | 1, _ => exact fun j hj => hs _ (s_el1 j hj)
    | i + 2, hi => exact absurd hi (by omega)
  · intro i j hi hj hij
    match i, j, hi, hj with
    | 0, 0, _, _ => exact absurd rfl hij
    | 1, 1, _, _ => exact absurd rfl hij
    | 0, 1, _, _ => exact Or.inr (hs (Cond.not (Cond.eq (Term.string "TailorRegiment$Tape" 53) (Term.string "TailorRegiment$Tape" 45))) (by decide +kernel))
    | 1, 0, _, _ => exact Or.inl (hs (Cond.not (Cond.eq (Term.string "TailorRegiment$Tape" 53) (Term.string "TailorRegiment$Tape" 45))) (by decide +kernel))
    | i + 2, _, hi, _ => exact absurd hi (by omega)
    | _, j + 2, _, hj => exact absurd hj (by omega)
def xv0 : Nat → Int32 := fun k => if k = 8 then (-1) else if k = 11 then 10 else if k = 12 then 150 else if k = 13 then 2 else if k = 33 then 10 else if k = 34 then 150 else if k = 35 then 2 else 0
def xf0 : Nat → Nat → Int32 := fun k => if k = 15 then cF else if k = 17 then (va_cpy cF zF 0 0 44) else if k = 18 then cF else if k = 27 then (fiF zF (-1) 21) else zF
def yv0 : Nat → Int32 := fun k => if k = 2 then (-1) else if k = 26 then 10 else if k = 27 then 150 else if k = 28 then 2 else 0
def yf0 : Nat → Nat → Int32 := fun _ => zF
theorem xi0 : XI xv0 := by unfold XI; decide +kernel
theorem yi0 : YI yv0 := ⟨by unfold YIb; decide +kernel, by decide⟩
theorem yc0 : YC yf0 := ⟨(fun _ _ => Or.inr (Or.inr (show -1 ≤ (0 : Int32).toInt ∧ (0 : Int32).toInt ≤ 5 by decide))), (fun _ _ => Or.inr (Or.inr (show -1 ≤ (0 : Int32).toInt ∧ (0 : Int32).toInt ≤ 5 by decide))), (fun _ _ => Or.inr (Or.inr (show -1 ≤ (0 : Int32).toInt ∧ (0 : Int32).toInt ≤ 5 by decide))), (fun _ _ => (show (-1 : Int) ≤ (0 : Int32).toInt ∧ (0 : Int32).toInt ≤ (5 : Int) by decide)), (fun _ _ => (show (0 : Int) ≤ (0 : Int32).toInt ∧ (0 : Int32).toInt ≤ (20 : Int) by decide)), (fun _ _ => Or.inr (Or.inr (show -1 ≤ (0 : Int32).toInt ∧ (0 : Int32).toInt ≤ 5 by decide)))⟩
theorem yr0 : progOK (yf0 4) (yf0 5) (yv0 9).toInt.toNat := fun _ hs => absurd hs (Nat.not_lt_zero _)
theorem r30 : R3 xv0 xf0 yv0 yf0 := by
  have z : ∀ {P : Nat → Prop} (j : Nat), j < 0 → P j := fun j hj => absurd hj (Nat.not_lt_zero _)
  exact ⟨⟨⟨fun _ => 0, 0, Nat.zero_le _, nI_0.symm, nI_0.symm, fun k hk => absurd hk (Nat.not_lt_zero _)⟩, rfl, rfl⟩, ⟨⟨0, 0, nI_0.symm, nI_0.symm, by decide, nI_0.symm, nI_0.symm, by decide, fun j hj => absurd hj (Nat.not_lt_zero _), fun j hj => absurd hj (Nat.not_lt_zero _)⟩, ⟨rfl, rfl, rfl, rfl, ⟨by decide, by decide⟩, ⟨by decide, by decide⟩, ⟨by decide, by decide⟩, ⟨by decide, by decide⟩⟩, Or.inl ⟨rfl, rfl⟩⟩, rfl, 0, by decide, nI_0.symm, nI_0.symm, fun j hj => absurd hj (Nat.not_lt_zero _)⟩
theorem fr0 : FREL xv0 xf0 yv0 yf0 := by
  have z : ∀ {P : Nat → Prop} (j : Nat), j < 0 → P j := fun j hj => absurd hj (Nat.not_lt_zero _)
  refine ⟨r30, 0, 0, nI_0.symm, nI_0.symm, by decide, nI_0.symm, nI_0.symm, by decide, fun j hj => absurd hj (Nat.not_lt_zero _), fun j hj => absurd hj (Nat.not_lt_zero _), ⟨fun j hj => absurd hj (Nat.not_lt_zero _), fun j hj => absurd hj (Nat.not_lt_zero _), ⟨0, by decide, nI_0.symm, fun j hj => absurd hj (Nat.not_lt_zero _)⟩, ⟨rfl, 0, by decide, nI_0.symm⟩, ⟨rfl, 0, by decide, nI_0.symm⟩, fun m m' hm => absurd hm (Nat.not_lt_zero _)⟩, ⟨0, 0, 0, by decide, by decide, nI_0.symm, nI_0.symm, nI_0.symm, nI_0.symm, nI_0.symm, fun j hj => absurd hj (Nat.not_lt_zero _), fun j _ hj => absurd hj (Nat.not_lt_zero _), fun k hk => ?_⟩, ⟨0, by decide, nI_0.symm, fun i hi => ⟨(zdiv i).symm, fun q => ?_⟩⟩⟩
  · show va_cpy cF zF 0 0 44 ((0 + 0) % 41 * 44 + k) = cF k
    rw [show (0 + 0) % 41 * 44 + k = k by omega]
    exact cpy_in hk
  · rw [Nat.zero_div] at q; exact absurd q (by decide)
