def R_law : String := "TailorRegimentLaw"
def lw_P (b : Addr) (xs : List Int32) (args : Array Value) (s : State) : Prop := args = #[.ref b] ∧ s.IntsAt b xs ∧ xs.length ≤ 3072 ∧ (Jvm.Cond.and given_1 narrow_1).before args s = true
def lw_Q (_ : Array Value) (s : State) (o : Outcome) (t : State) : Prop := o = .returned (some (.int 1)) ∧ Framed s o t [] 600000 7302250
def lw_Z (below : List Frame) (a : Array Value) (s : State) : State → Prop := fun t => ∃ o, t.status = .running ∧ Ended t below o ∧ lw_Q a s o t
/-- the law's own end, with 1 on the stack, nothing written that was there before, its room as the claim has it -/
theorem lw_ret {p : Program} {l : Launch} {e : Env} {s : State} {m : MethodId} {below : List Frame} {meth : Method} {c : Code} {b : Nat} (hx : p.tables.exec = Jvm.exec) (hb : c.code = code) (hr : meth.sig.returnType = ret) (hlocks : meth.locks = false) {pc : Nat} {H : Heap} {ls : Array Slot} (hdg : decode code pc = .ok (.ireturn, 1)) : W p l e room_1 s m #[Value.ref b] below meth c H [] 600000 7302250 (lw_Z below #[Value.ref b] s) (F0 m pc ls [.int 1]) := by
  intro T hT X
  obtain ⟨fs, hret, hrun, hended, hW, hframe⟩ := X.leave (v := some (.int 1)) (hlocks := hlocks) (fun h => by rw [hr] at h; cases h)
  have hmeth' : T.vm.method? m = some meth := X.method'
  refine ⟨T.setFrames fs, ?_, .returned (some (.int 1)), hrun, hended, rfl, ⟨_, rfl⟩, hW, hframe⟩
  jvm_step X.here [X.here.top, hx, hb, hdg, hmeth', hr, ret, narrow_b1]
  (try refine ⟨rfl, ?_⟩); (try refine ⟨rfl, ?_⟩)
  first | (intro acts; rw [hret _ acts rfl rfl rfl]) | rw [hret _ _ rfl rfl rfl]
  exact Steps.refl _
/-- what holds at the law's entry: the machine, the code, the tables' words (any of lw_tbl by 'hts w (by decide +kernel)'), the script of L ints xs at the cell b, what the Statement gives of the start (any of its parts by flat_of_before) -/
def lw_At (p : Program) (s : State) (m : MethodId) (meth : Method) (c : Code) (b L : Nat) (xs : Nat → Int32) : Prop :=
  p.tables.exec = Jvm.exec ∧ c.code = code ∧ meth.sig.returnType = ret ∧ c.maxLocals = 4 ∧ s.vm.findClass R_law = some m.cls ∧ (∀ w ∈ lw_tbl, w.before #[Value.ref b] s = true) ∧ va_X b L xs s s.heap ∧ b < s.heap.size ∧ meth.locks = false ∧ (Jvm.Cond.and given_1 narrow_1).before #[Value.ref b] s = true

theorem arr_known {a : Array Value} {s : State} {ty : FieldType} (hty : ∀ C, ty ≠ .object C) (h : (Cond.arrayClass ty).before a s = true) : ∃ cA : ClassId, ArrOfT s cA ty ∧ va_RA s cA ty := by
  obtain ⟨cA, kA, comp, h1, h2, h3⟩ := Cond.arrayClass_spec h
  refine ⟨cA, fun n z => ⟨fun k h => (by cases h), kA, h2, comp, h3⟩, ?_⟩
  cases ty <;> first | exact h1 | exact absurd rfl (hty _)
def sTM (i : Nat) : Term := if i = 0 then Term.string "TailorRegiment$Tape" 45 else Term.string "TailorRegiment$Tape" 53
set_option maxRecDepth 100000 in
theorem s_el0 : ∀ j, j < 11 → Cond.eq (.elem (.field (Term.string "TailorRegiment$Tape" 45) "java/lang/String" "value" "[B") (.int (Int32.ofNat j))) (.int ((sBYT.getD 0 []).getD j 0)) ∈ flatC (Jvm.Cond.and given_1 narrow_1) := by decide +kernel
set_option maxRecDepth 100000 in
theorem s_el1 : ∀ j, j < 102 → Cond.eq (.elem (.field (Term.string "TailorRegiment$Tape" 53) "java/lang/String" "value" "[B") (.int (Int32.ofNat j))) (.int ((sBYT.getD 1 []).getD j 0)) ∈ flatC (Jvm.Cond.and given_1 narrow_1) := by decide +kernel
set_option maxHeartbeats 4000000 in
set_option maxRecDepth 100000 in
theorem s_all {a : Array Value} {s : State} {A : Nat → Prop} (h : (Jvm.Cond.and given_1 narrow_1).before a s = true) (hA : ∀ q : Nat, q < s.heap.size → ¬ A q) : ∃ adK adV : Nat → Nat, vk_S 2 sLEN sBYT adK adV A s s.heap ∧ ∀ i : Nat, i < 2 → (sTM i).eval a s none [] s = some (.ref (adK i)) := by
  have hs := flat_of_before _ h
  refine vk_Sof (tm := sTM) ?_ ?_ ?_ ?_ ?_ ?_ ?_ hA
  · intro i hi
    match i, hi with
    | 0, _ => decide
    | 1, _ => decide
    | i + 2, hi => exact absurd hi (by omega)
  · intro i hi
    match i, hi with
    | 0, _ => exact hs (Cond.exactly (Term.string "TailorRegiment$Tape" 45) "java/lang/String") (by decide +kernel)
    | 1, _ => exact hs (Cond.exactly (Term.string "TailorRegiment$Tape" 53) "java/lang/String") (by decide +kernel)
    | i + 2, hi => exact absurd hi (by omega)
  · intro i hi
    match i, hi with
    | 0, _ => exact hs (Cond.eq (.field (Term.string "TailorRegiment$Tape" 45) "java/lang/String" "coder" "B") (.int 0)) (by decide +kernel)
    | 1, _ => exact hs (Cond.eq (.field (Term.string "TailorRegiment$Tape" 53) "java/lang/String" "coder" "B") (.int 0)) (by decide +kernel)
    | i + 2, hi => exact absurd hi (by omega)
  · intro i hi
    match i, hi with
    | 0, _ => exact hs (Cond.arrayOf (.field (Term.string "TailorRegiment$Tape" 45) "java/lang/String" "value" "[B") .byte) (by decide +kernel)
    | 1, _ => exact hs (Cond.arrayOf (.field (Term.string "TailorRegiment$Tape" 53) "java/lang/String" "value" "[B") .byte) (by decide +kernel)
    | i + 2, hi => exact absurd hi (by omega)
  · intro i hi
    match i, hi with
    | 0, _ => exact hs (Cond.eq (.length (.field (Term.string "TailorRegiment$Tape" 45) "java/lang/String" "value" "[B")) (.int 11)) (by decide +kernel)
    | 1, _ => exact hs (Cond.eq (.length (.field (Term.string "TailorRegiment$Tape" 53) "java/lang/String" "value" "[B")) (.int 102)) (by decide +kernel)
    | i + 2, hi => exact absurd hi (by omega)
  · intro i hi
    match i, hi with
    | 0, _ => exact fun j hj => hs _ (s_el0 j hj)
    | 1, _ => exact fun j hj => hs _ (s_el1 j hj)
    | i + 2, hi => exact absurd hi (by omega)
  · intro i j hi hj hij
    match i, j, hi, hj with
    | 0, 0, _, _ => exact absurd rfl hij
    | 1, 1, _, _ => exact absurd rfl hij
    | 0, 1, _, _ => exact Or.inr (hs (Cond.not (Cond.eq (Term.string "TailorRegiment$Tape" 53) (Term.string "TailorRegiment$Tape" 45))) (by decide +kernel))
    | 1, 0, _, _ => exact Or.inl (hs (Cond.not (Cond.eq (Term.string "TailorRegiment$Tape" 53) (Term.string "TailorRegiment$Tape" 45))) (by decide +kernel))
    | i + 2, _, hi, _ => exact absurd hi (by omega)
    | _, j + 2, _, hj => exact absurd hj (by omega)
def xv0 : Nat → Int32 := fun k => if k = 8 then (-1) else if k = 11 then 10 else if k = 12 then 150 else if k = 13 then 2 else if k = 33 then 10 else if k = 34 then 150 else if k = 35 then 2 else 0
def xf0 : Nat → Nat → Int32 := fun k => if k = 15 then cF else if k = 17 then (va_cpy cF zF 0 0 44) else if k = 18 then cF else if k = 27 then (fiF zF (-1) 21) else zF
def yv0 : Nat → Int32 := fun k => if k = 2 then (-1) else if k = 26 then 10 else if k = 27 then 150 else if k = 28 then 2 else 0
def yf0 : Nat → Nat → Int32 := fun _ => zF
theorem xi0 : XI xv0 := by unfold XI; decide +kernel
theorem yi0 : YI yv0 := ⟨by unfold YIb; decide +kernel, by decide⟩
theorem yc0 : YC yf0 := ⟨(fun _ _ => Or.inr (Or.inr (show -1 ≤ (0 : Int32).toInt ∧ (0 : Int32).toInt ≤ 5 by decide))), (fun _ _ => Or.inr (Or.inr (show -1 ≤ (0 : Int32).toInt ∧ (0 : Int32).toInt ≤ 5 by decide))), (fun _ _ => Or.inr (Or.inr (show -1 ≤ (0 : Int32).toInt ∧ (0 : Int32).toInt ≤ 5 by decide))), (fun _ _ => (show (-1 : Int) ≤ (0 : Int32).toInt ∧ (0 : Int32).toInt ≤ (5 : Int) by decide)), (fun _ _ => (show (0 : Int) ≤ (0 : Int32).toInt ∧ (0 : Int32).toInt ≤ (20 : Int) by decide)), (fun _ _ => Or.inr (Or.inr (show -1 ≤ (0 : Int32).toInt ∧ (0 : Int32).toInt ≤ 5 by decide)))⟩
theorem yr0 : progOK (yf0 4) (yf0 5) (yv0 9).toInt.toNat := fun _ hs => absurd hs (Nat.not_lt_zero _)
theorem r30 : R3 xv0 xf0 yv0 yf0 := by
  have z : ∀ {P : Nat → Prop} (j : Nat), j < 0 → P j := fun j hj => absurd hj (Nat.not_lt_zero _)
  exact ⟨⟨⟨fun _ => 0, 0, Nat.zero_le _, nI_0.symm, nI_0.symm, fun k hk => absurd hk (Nat.not_lt_zero _)⟩, rfl, rfl⟩, ⟨⟨0, 0, nI_0.symm, nI_0.symm, by decide, nI_0.symm, nI_0.symm, by decide, fun j hj => absurd hj (Nat.not_lt_zero _), fun j hj => absurd hj (Nat.not_lt_zero _)⟩, ⟨rfl, rfl, rfl, rfl, ⟨by decide, by decide⟩, ⟨by decide, by decide⟩, ⟨by decide, by decide⟩, ⟨by decide, by decide⟩⟩, Or.inl ⟨rfl, rfl⟩⟩, rfl, 0, by decide, nI_0.symm, nI_0.symm, fun j hj => absurd hj (Nat.not_lt_zero _)⟩
theorem fr0 : FREL xv0 xf0 yv0 yf0 := by
  have z : ∀ {P : Nat → Prop} (j : Nat), j < 0 → P j := fun j hj => absurd hj (Nat.not_lt_zero _)
  refine ⟨r30, 0, 0, nI_0.symm, nI_0.symm, by decide, nI_0.symm, nI_0.symm, by decide, fun j hj => absurd hj (Nat.not_lt_zero _), fun j hj => absurd hj (Nat.not_lt_zero _), ⟨fun j hj => absurd hj (Nat.not_lt_zero _), fun j hj => absurd hj (Nat.not_lt_zero _), ⟨0, by decide, nI_0.symm, fun j hj => absurd hj (Nat.not_lt_zero _)⟩, ⟨rfl, 0, by decide, nI_0.symm⟩, ⟨rfl, 0, by decide, nI_0.symm⟩, fun m m' hm => absurd hm (Nat.not_lt_zero _)⟩, ⟨0, 0, 0, by decide, by decide, nI_0.symm, nI_0.symm, nI_0.symm, nI_0.symm, nI_0.symm, fun j hj => absurd hj (Nat.not_lt_zero _), fun j _ hj => absurd hj (Nat.not_lt_zero _), fun k hk => ?_⟩, ⟨0, by decide, nI_0.symm, fun i hi => ⟨(zdiv i).symm, fun q => ?_⟩⟩⟩
  · show va_cpy cF zF 0 0 44 ((0 + 0) % 41 * 44 + k) = cF k
    rw [show (0 + 0) % 41 * 44 + k = k by omega]
    exact cpy_in hk
  · rw [Nat.zero_div] at q; exact absurd q (by decide)
set_option maxHeartbeats 4000000 in
set_option maxRecDepth 100000 in
theorem whole_start {p : Program} {e : Env} {s : State} {m : MethodId} {below : List Frame} {meth : Method} {c : Code} (l : Launch) (hflags : l.flags = flags0) {b L : Nat} {xs : Nat → Int32} (hL : L ≤ 3072) (C0 : lw_At p s m meth c b L xs) : W p l e room_1 s m #[Value.ref b] below meth c s.heap [] 0 0 (lw_Z below #[Value.ref b] s) (entryFrame m ([Value.ref b] : List Value).toArray 4) := by
  obtain ⟨hx, hb, hr, hml, hown, hts0, hX, hbl, hlocks, hgv⟩ := C0
  have hown : s.vm.findClass RL = some m.cls := hown
  have hA : ∀ q : Nat, s.heap.size ≤ q → (fun q : Nat => s.heap.size ≤ q) q := fun _ h => h
  have hnA : ∀ q : Nat, q < s.heap.size → ¬ (fun q : Nat => s.heap.size ≤ q) q := fun _ h => Nat.not_le.mpr h
  have hbA : ¬ (fun q : Nat => s.heap.size ≤ q) b := Nat.not_le.mpr hbl
  have hts : ∀ w ∈ BIG, w.before #[Value.ref b] s = true := fun w h => hts0 w (mBl h)
  have hs := flat_of_before _ hgv
  obtain ⟨adK, adV, hVS, hev⟩ := s_all (A := (fun q : Nat => s.heap.size ≤ q)) hgv hnA
  have hZc : va_Z "java/lang/String" "COMPACT_STRINGS" "Z" (.int 1) (fun q : Nat => s.heap.size ≤ q) s s.heap := va_Zof (hts0 (Cond.laysStatic "java/lang/String" "COMPACT_STRINGS" "Z") (tb_2 (List.mem_of_getElem? (i := 0) (by decide +kernel)))) (hts _ k_115) (va_eqt (hs (Cond.eq (.static "java/lang/String" "COMPACT_STRINGS" "Z") (.int 1)) (by decide +kernel))) hnA
  have hZq : va_Zq "jdk/internal/util/Preconditions" "SIOOBE_FORMATTER" "Ljava/util/function/BiFunction;" (fun q : Nat => s.heap.size ≤ q) s s.heap := va_Zqof (hts0 (Cond.laysStatic "jdk/internal/util/Preconditions" "SIOOBE_FORMATTER" "Ljava/util/function/BiFunction;") (tb_2 (List.mem_of_getElem? (i := 16) (by decide +kernel)))) (hts _ k_117) (hs (Cond.isRef (.static "jdk/internal/util/Preconditions" "SIOOBE_FORMATTER" "Ljava/util/function/BiFunction;")) (by decide +kernel)) hnA
  have hR0 : vk_R "TailorRegiment$Tape" 45 ";()<>=+-*/%" (adK 0) s := vk_R.of (hts0 (Cond.stringRef "TailorRegiment$Tape" 45 ";()<>=+-*/%") (tb_2 (List.mem_of_getElem? (i := 43) (by decide +kernel)))) (hev 0 (by decide))
  have hR1 : vk_R "TailorRegiment$Tape" 53 "man coat ill easy bolt like rain draw tall wide grows seam or and not tight loose short long worn day " (adK 1) s := vk_R.of (hts0 (Cond.stringRef "TailorRegiment$Tape" 53 "man coat ill easy bolt like rain draw tall wide grows seam or and not tight loose short long worn day ") (tb_1 (List.mem_of_getElem? (i := 230) (by decide +kernel)))) (hev 1 (by decide))
  obtain ⟨c0, iS0, hKn0⟩ := u_known (C := RX0) (T := TX0) (N := 8) (n := 8) hts inB_0 (hts _ k_425)
  obtain ⟨c1, iS1, hKn1⟩ := u_known (C := RX1) (T := TX1) (N := 2) (n := 2) hts inB_1 (hts _ k_293)
  obtain ⟨c2, iS2, hKn2⟩ := u_known (C := RX2) (T := TX2) (N := 3) (n := 3) hts inB_2 (hts _ k_409)
  obtain ⟨c3, iS3, hKn3⟩ := u_known (C := RX3) (T := TX3) (N := 10) (n := 10) hts inB_3 (hts _ k_363)
  obtain ⟨c4, iS4, hKn4⟩ := u_known (C := RX4) (T := TX4) (N := 6) (n := 6) hts inB_4 (hts _ k_173)
  obtain ⟨c5, iS5, hKn5⟩ := u_known (C := RX5) (T := TX5) (N := 7) (n := 7) hts inB_5 (hts _ k_326)
  obtain ⟨c6, iS6, hKn6⟩ := u_known (C := RX6) (T := TX6) (N := 7) (n := 7) hts inB_6 (hts _ k_161)
  obtain ⟨c7, iS7, hKn7⟩ := u_known (C := RX7) (T := TX7) (N := 10) (n := 10) hts inB_7 (hts _ k_167)
  obtain ⟨c8, iS8, hKn8⟩ := u_known (C := RX8) (T := TX8) (N := 7) (n := 7) hts inB_8 (hts _ k_459)
  obtain ⟨c9, iS9, hKn9⟩ := u_known (C := RX9) (T := TX9) (N := 6) (n := 6) hts inB_9 (hts _ k_131)
  obtain ⟨c10, iS10, hKn10⟩ := u_known (C := RX10) (T := TX10) (N := 10) (n := 10) hts inB_10 (hts _ k_123)
  obtain ⟨c11, iS11, hKn11⟩ := u_known (C := RX11) (T := TX11) (N := 79) (n := 79) hts inB_11 (hts _ k_1315)
  obtain ⟨cA0, hA0⟩ := arr_known (ty := .byte) (fun C h => by cases h) (hts _ k_159)
  obtain ⟨cA1, hA1⟩ := arr_known (ty := .int) (fun C h => by cases h) (hts _ k_199)
  obtain ⟨cA2, hA2⟩ := arr_known (ty := .long) (fun C h => by cases h) (hts _ k_1558)
  obtain ⟨cA3, hA3⟩ := arr_known (ty := .boolean) (fun C h => by cases h) (hts _ k_490)
  obtain ⟨dC, dI, hKc, hd0, hd1⟩ : ∃ (dC : Nat → ClassId) (dI : Nat → Nat → Nat), (∀ (k : Nat) (q : vw_C), vwCl[k]? = some q → u_Kn s q.1 q.2.1 q.2.2 (dC k) (dI k)) ∧ dI 100 = adK ∧ dI 101 = adV := by
    refine ⟨fun k => if k = 0 then c0 else if k = 1 then c1 else if k = 2 then c2 else if k = 3 then c3 else if k = 4 then c4 else if k = 5 then c5 else if k = 6 then c6 else if k = 7 then c7 else if k = 8 then c8 else if k = 9 then c9 else if k = 10 then c10 else c11, fun k => if k = 0 then iS0 else if k = 1 then iS1 else if k = 2 then iS2 else if k = 3 then iS3 else if k = 4 then iS4 else if k = 5 then iS5 else if k = 6 then iS6 else if k = 7 then iS7 else if k = 8 then iS8 else if k = 9 then iS9 else if k = 10 then iS10 else if k = 11 then iS11 else if k = 100 then adK else adV, ?_, rfl, rfl⟩
    intro k q hq
    match k, hq with
    | 0, hq => cases hq; exact hKn0
    | 1, hq => cases hq; exact hKn1
    | 2, hq => cases hq; exact hKn2
    | 3, hq => cases hq; exact hKn3
    | 4, hq => cases hq; exact hKn4
    | 5, hq => cases hq; exact hKn5
    | 6, hq => cases hq; exact hKn6
    | 7, hq => cases hq; exact hKn7
    | 8, hq => cases hq; exact hKn8
    | 9, hq => cases hq; exact hKn9
    | 10, hq => cases hq; exact hKn10
    | 11, hq => cases hq; exact hKn11
    | k + 12, hq => simp [vwCl] at hq
  obtain ⟨cy, hcy⟩ : ∃ cy : Nat → ClassId, ∀ (k : Nat) (q : ClassId × FieldType), (TYS cy)[k]? = some q → ArrOfT s q.1 q.2 ∧ va_RA s q.1 q.2 := by
    refine ⟨fun k => if k = 0 then cA0 else if k = 1 then cA1 else if k = 2 then cA2 else cA3, ?_⟩
    intro k q hq
    match k, hq with
    | 0, hq => cases hq; exact hA0
    | 1, hq => cases hq; exact hA1
    | 2, hq => cases hq; exact hA2
    | 3, hq => cases hq; exact hA3
    | k + 4, hq => simp [TYS] at hq
  have hE : ENV (dC, dI) cy s := ⟨⟨hKc, hcy⟩, NW.of hts0⟩
  rw [← hd0, ← hd1] at hVS
  rw [← hd0] at hR0 hR1
  have hF : SRF (dC, dI) s := ⟨hR0, hR1⟩
  have hT : STR (dC, dI) (fun q : Nat => s.heap.size ≤ q) s s.heap := ⟨hVS, hZc, hZq⟩
  have hS : va_S (fun q : Nat => s.heap.size ≤ q) s.heap s.heap [] := va_S.rf
  have hP : va_P (dC, dI) vwCl [] s.heap := fun k q h => by simp at h
  have hD : va_D (fun q : Nat => s.heap.size ≤ q) [] := ⟨fun i j p q h => by simp at h, fun k q h => by simp at h⟩
  have hl := lv_entry ([.ref b]) (n := 4) (Nat.le_of_ble_eq_true rfl)
  rw [lg_entry_eq]
  generalize (lg_sl ([.ref b]) ++ List.replicate (4 - (lg_sl ([.ref b])).length) Slot.unset).toArray = ls at hl ⊢
  have hl : lv_has ls 4 [(0, .ref b)] := hl
  refine va_new (ci := 10) (fs := [.null, .null, .null, .null, .null, .null, .null, .null, .null, .int 0]) (C := RX10) (T := TX10) (N := 10) hx hb hts inB_10 tyX10 tyX10_ok hown (hts _ k_122) (hts _ k_123) (hts _ k_101) hE.1 hP hD hS hA rfl nwd_10 (Nat.le_of_ble_eq_true rfl) (Nat.le_of_ble_eq_true rfl) dL_law_0 (fun q1 H hP1 hD1 hS1 => ?_)
  clear hP hD hS
  have hP2 : va_P (dC, dI) vwCl [(q1, .inr (10, [.null, .null, .null, .null, .null, .null, .null, .null, .null, .int 0]))] H := hP1
  clear hP1
  have hD3 : va_D (fun q : Nat => s.heap.size ≤ q) [(q1, .inr (10, [.null, .null, .null, .null, .null, .null, .null, .null, .null, .int 0]))] := hD1
  clear hD1
  refine W.widen (k := 1) (n := 10) (Nat.le_of_ble_eq_true rfl) (Nat.le_of_ble_eq_true rfl) ?_
  refine lv_dup hx hb dL_law_3 rfl ?_
  refine caI (n := 0) (wr := []) (rest := [.ref q1]) hx hb hml hown hts hE hP2 hD3 hS1 hA (cnX10_init_1 l dC dI cy q1) k_124 k_125 k_101 k_126 rfl (by decide +kernel) ⟨Nat.le_of_ble_eq_true rfl, Nat.le_of_ble_eq_true rfl⟩ [0] [] rfl rfl rfl (by decide) (by decide) (by decide) rfl hl.1 rfl (Nat.le_of_ble_eq_true rfl) dL_law_4 ⟨Nat.le_of_ble_eq_true rfl, Nat.le_of_ble_eq_true rfl⟩ (fun u H locs hw hP4 hD4 hS4 => ?_)
  clear hP2 hD3 hS1
  obtain ⟨x2, ex2⟩ : ∃ z, z = u := ⟨_, rfl⟩
  rw [← ex2] at hP4 hD4
  have hP5 : va_P (dC, dI) vwCl [(q1, .inr (10, [.ref (x2 0), .ref (x2 2), .ref (x2 26), .ref (x2 21), .ref (x2 20), .ref (x2 25), .ref (x2 29), .ref (x2 31), .ref (x2 35), .int 0])), ((x2 0), .inr (9, [.ref (x2 1), .int 0, .int 0, .int 0, .int 0, .int 0])), ((x2 1), .inl (cy 0, 1600, .inl zF)), ((x2 2), .inr (6, [.ref (x2 0), .ref (x2 3), .ref (x2 11), .ref (x2 12), .int 0, .int 0, .int (-1)])), ((x2 3), .inr (7, [.ref (x2 4), .ref (x2 5), .ref (x2 6), .int 0, .int 0, .int 10, .int 150, .int 2, .int 0, .int 0])), ((x2 4), .inl (cy 1, 18, .inl zF)), ((x2 5), .inl (cy 1, 24, .inl zF)), ((x2 6), .inr (4, [.ref (x2 7), .ref (x2 8), .ref (x2 9), .ref (x2 10), .int 0, .int 0])), ((x2 7), .inl (cy 1, 300, .inl zF)), ((x2 8), .inl (cy 1, 300, .inl zF)), ((x2 9), .inl (cy 1, 30, .inl zF)), ((x2 10), .inl (cy 1, 6, .inl zF)), ((x2 11), .inl (cy 1, 6, .inl zF)), ((x2 12), .inl (cy 1, 6, .inl zF)), ((x2 13), .inl (cy 1, 18, .inl zF)), ((x2 14), .inl (cy 1, 24, .inl zF)), ((x2 15), .inr (4, [.ref (x2 16), .ref (x2 17), .ref (x2 18), .ref (x2 19), .int 0, .int 0])), ((x2 16), .inl (cy 1, 300, .inl zF)), ((x2 17), .inl (cy 1, 300, .inl zF)), ((x2 18), .inl (cy 1, 30, .inl zF)), ((x2 19), .inl (cy 1, 6, .inl zF)), ((x2 20), .inr (5, [.ref (x2 21), .ref (x2 24), .ref (x2 23), .int 0, .int 0, .int 0, .int 0])), ((x2 21), .inr (1, [.ref (x2 26), .ref (x2 22)])), ((x2 22), .inl (cy 1, 44, .inl cF)), ((x2 23), .inl (cy 1, 132, .inl zF)), ((x2 24), .inl (cy 1, 1804, .inl (va_cpy cF zF 0 0 44))), ((x2 25), .inr (3, [.ref (x2 26), .ref (x2 21), .ref (x2 27), .int 0, .int 0, .int 0, .int 0, .int 0, .int 0, .int 0])), ((x2 26), .inr (7, [.ref (x2 13), .ref (x2 14), .ref (x2 15), .int 0, .int 0, .int 10, .int 150, .int 2, .int 0, .int 0])), ((x2 27), .inr (1, [.ref (x2 26), .ref (x2 28)])), ((x2 28), .inl (cy 1, 44, .inl cF)), ((x2 29), .inr (2, [.ref (x2 26), .ref (x2 21), .ref (x2 30)])), ((x2 30), .inl (cy 1, 64, .inl zF)), ((x2 31), .inr (0, [.ref (x2 26), .ref (x2 21), .ref (x2 32), .int 0, .ref (x2 33), .ref (x2 34), .int 0, .int 0])), ((x2 32), .inl (cy 1, 6, .inl zF)), ((x2 33), .inl (cy 1, 448, .inl zF)), ((x2 34), .inl (cy 1, 36, .inl zF)), ((x2 35), .inr (8, [.ref (x2 26), .ref (x2 36), .ref (x2 37), .ref (x2 38), .ref (x2 39), .int 0, .ref (x2 40)])), ((x2 36), .inl (cy 1, 30, .inl zF)), ((x2 37), .inl (cy 3, 30, .inl zF)), ((x2 38), .inl (cy 1, 30, .inl zF)), ((x2 39), .inl (cy 1, 30, .inl zF)), ((x2 40), .inl (cy 1, 21, .inl (fiF zF (-1) 21)))] H := hP4
  clear hP4
  have hD6 : va_D (fun q : Nat => s.heap.size ≤ q) [(q1, .inr (10, [.ref (x2 0), .ref (x2 2), .ref (x2 26), .ref (x2 21), .ref (x2 20), .ref (x2 25), .ref (x2 29), .ref (x2 31), .ref (x2 35), .int 0])), ((x2 0), .inr (9, [.ref (x2 1), .int 0, .int 0, .int 0, .int 0, .int 0])), ((x2 1), .inl (cy 0, 1600, .inl zF)), ((x2 2), .inr (6, [.ref (x2 0), .ref (x2 3), .ref (x2 11), .ref (x2 12), .int 0, .int 0, .int (-1)])), ((x2 3), .inr (7, [.ref (x2 4), .ref (x2 5), .ref (x2 6), .int 0, .int 0, .int 10, .int 150, .int 2, .int 0, .int 0])), ((x2 4), .inl (cy 1, 18, .inl zF)), ((x2 5), .inl (cy 1, 24, .inl zF)), ((x2 6), .inr (4, [.ref (x2 7), .ref (x2 8), .ref (x2 9), .ref (x2 10), .int 0, .int 0])), ((x2 7), .inl (cy 1, 300, .inl zF)), ((x2 8), .inl (cy 1, 300, .inl zF)), ((x2 9), .inl (cy 1, 30, .inl zF)), ((x2 10), .inl (cy 1, 6, .inl zF)), ((x2 11), .inl (cy 1, 6, .inl zF)), ((x2 12), .inl (cy 1, 6, .inl zF)), ((x2 13), .inl (cy 1, 18, .inl zF)), ((x2 14), .inl (cy 1, 24, .inl zF)), ((x2 15), .inr (4, [.ref (x2 16), .ref (x2 17), .ref (x2 18), .ref (x2 19), .int 0, .int 0])), ((x2 16), .inl (cy 1, 300, .inl zF)), ((x2 17), .inl (cy 1, 300, .inl zF)), ((x2 18), .inl (cy 1, 30, .inl zF)), ((x2 19), .inl (cy 1, 6, .inl zF)), ((x2 20), .inr (5, [.ref (x2 21), .ref (x2 24), .ref (x2 23), .int 0, .int 0, .int 0, .int 0])), ((x2 21), .inr (1, [.ref (x2 26), .ref (x2 22)])), ((x2 22), .inl (cy 1, 44, .inl cF)), ((x2 23), .inl (cy 1, 132, .inl zF)), ((x2 24), .inl (cy 1, 1804, .inl (va_cpy cF zF 0 0 44))), ((x2 25), .inr (3, [.ref (x2 26), .ref (x2 21), .ref (x2 27), .int 0, .int 0, .int 0, .int 0, .int 0, .int 0, .int 0])), ((x2 26), .inr (7, [.ref (x2 13), .ref (x2 14), .ref (x2 15), .int 0, .int 0, .int 10, .int 150, .int 2, .int 0, .int 0])), ((x2 27), .inr (1, [.ref (x2 26), .ref (x2 28)])), ((x2 28), .inl (cy 1, 44, .inl cF)), ((x2 29), .inr (2, [.ref (x2 26), .ref (x2 21), .ref (x2 30)])), ((x2 30), .inl (cy 1, 64, .inl zF)), ((x2 31), .inr (0, [.ref (x2 26), .ref (x2 21), .ref (x2 32), .int 0, .ref (x2 33), .ref (x2 34), .int 0, .int 0])), ((x2 32), .inl (cy 1, 6, .inl zF)), ((x2 33), .inl (cy 1, 448, .inl zF)), ((x2 34), .inl (cy 1, 36, .inl zF)), ((x2 35), .inr (8, [.ref (x2 26), .ref (x2 36), .ref (x2 37), .ref (x2 38), .ref (x2 39), .int 0, .ref (x2 40)])), ((x2 36), .inl (cy 1, 30, .inl zF)), ((x2 37), .inl (cy 3, 30, .inl zF)), ((x2 38), .inl (cy 1, 30, .inl zF)), ((x2 39), .inl (cy 1, 30, .inl zF)), ((x2 40), .inl (cy 1, 21, .inl (fiF zF (-1) 21)))] := hD4
  clear hD4
  refine W.widen (k := 42) (n := 5781) (Nat.le_of_ble_eq_true rfl) (Nat.le_of_ble_eq_true rfl) ?_
  refine lv_astore_n (lv' := [(1, .ref q1), (0, .ref b)]) hx hb dL_law_7 rfl hl (by decide) rfl (fun ls hl => ?_)
  refine va_new (ci := 11) (fs := [.null, .int 0, .int 0, .int 0, .int 0, .int 0, .int 0, .int 0, .int 0, .long 0, .null, .null, .null, .null, .null, .null, .null, .int 0, .int 0, .int 0, .int 0, .int 0, .int 0, .int 0, .int 0, .int 0, .null, .null, .null, .null, .null, .null, .null, .null, .null, .null, .null, .null, .null, .null, .null, .int 0, .int 0, .int 0, .int 0, .int 0, .int 0, .int 0, .int 0, .int 0, .int 0, .int 0, .int 0, .int 0, .int 0, .int 0, .int 0, .int 0, .int 0, .null, .null, .null, .int 0, .int 0, .null, .null, .null, .int 0, .null, .null, .null, .null, .null, .int 0, .int 0, .null, .null, .null, .null]) (C := RX11) (T := TX11) (N := 79) hx hb hts inB_11 tyX11 tyX11_ok hown (hts _ k_1314) (hts _ k_1315) (hts _ k_114) hE.1 hP5 hD6 hS4 hA rfl nwd_11 (Nat.le_of_ble_eq_true rfl) (Nat.le_of_ble_eq_true rfl) dL_law_8 (fun q3 H hP7 hD7 hS7 => ?_)
  clear hP5 hD6 hS4
  have hP8 : va_P (dC, dI) vwCl [(q1, .inr (10, [.ref (x2 0), .ref (x2 2), .ref (x2 26), .ref (x2 21), .ref (x2 20), .ref (x2 25), .ref (x2 29), .ref (x2 31), .ref (x2 35), .int 0])), ((x2 0), .inr (9, [.ref (x2 1), .int 0, .int 0, .int 0, .int 0, .int 0])), ((x2 1), .inl (cy 0, 1600, .inl zF)), ((x2 2), .inr (6, [.ref (x2 0), .ref (x2 3), .ref (x2 11), .ref (x2 12), .int 0, .int 0, .int (-1)])), ((x2 3), .inr (7, [.ref (x2 4), .ref (x2 5), .ref (x2 6), .int 0, .int 0, .int 10, .int 150, .int 2, .int 0, .int 0])), ((x2 4), .inl (cy 1, 18, .inl zF)), ((x2 5), .inl (cy 1, 24, .inl zF)), ((x2 6), .inr (4, [.ref (x2 7), .ref (x2 8), .ref (x2 9), .ref (x2 10), .int 0, .int 0])), ((x2 7), .inl (cy 1, 300, .inl zF)), ((x2 8), .inl (cy 1, 300, .inl zF)), ((x2 9), .inl (cy 1, 30, .inl zF)), ((x2 10), .inl (cy 1, 6, .inl zF)), ((x2 11), .inl (cy 1, 6, .inl zF)), ((x2 12), .inl (cy 1, 6, .inl zF)), ((x2 13), .inl (cy 1, 18, .inl zF)), ((x2 14), .inl (cy 1, 24, .inl zF)), ((x2 15), .inr (4, [.ref (x2 16), .ref (x2 17), .ref (x2 18), .ref (x2 19), .int 0, .int 0])), ((x2 16), .inl (cy 1, 300, .inl zF)), ((x2 17), .inl (cy 1, 300, .inl zF)), ((x2 18), .inl (cy 1, 30, .inl zF)), ((x2 19), .inl (cy 1, 6, .inl zF)), ((x2 20), .inr (5, [.ref (x2 21), .ref (x2 24), .ref (x2 23), .int 0, .int 0, .int 0, .int 0])), ((x2 21), .inr (1, [.ref (x2 26), .ref (x2 22)])), ((x2 22), .inl (cy 1, 44, .inl cF)), ((x2 23), .inl (cy 1, 132, .inl zF)), ((x2 24), .inl (cy 1, 1804, .inl (va_cpy cF zF 0 0 44))), ((x2 25), .inr (3, [.ref (x2 26), .ref (x2 21), .ref (x2 27), .int 0, .int 0, .int 0, .int 0, .int 0, .int 0, .int 0])), ((x2 26), .inr (7, [.ref (x2 13), .ref (x2 14), .ref (x2 15), .int 0, .int 0, .int 10, .int 150, .int 2, .int 0, .int 0])), ((x2 27), .inr (1, [.ref (x2 26), .ref (x2 28)])), ((x2 28), .inl (cy 1, 44, .inl cF)), ((x2 29), .inr (2, [.ref (x2 26), .ref (x2 21), .ref (x2 30)])), ((x2 30), .inl (cy 1, 64, .inl zF)), ((x2 31), .inr (0, [.ref (x2 26), .ref (x2 21), .ref (x2 32), .int 0, .ref (x2 33), .ref (x2 34), .int 0, .int 0])), ((x2 32), .inl (cy 1, 6, .inl zF)), ((x2 33), .inl (cy 1, 448, .inl zF)), ((x2 34), .inl (cy 1, 36, .inl zF)), ((x2 35), .inr (8, [.ref (x2 26), .ref (x2 36), .ref (x2 37), .ref (x2 38), .ref (x2 39), .int 0, .ref (x2 40)])), ((x2 36), .inl (cy 1, 30, .inl zF)), ((x2 37), .inl (cy 3, 30, .inl zF)), ((x2 38), .inl (cy 1, 30, .inl zF)), ((x2 39), .inl (cy 1, 30, .inl zF)), ((x2 40), .inl (cy 1, 21, .inl (fiF zF (-1) 21))), (q3, .inr (11, [.null, .int 0, .int 0, .int 0, .int 0, .int 0, .int 0, .int 0, .int 0, .long 0, .null, .null, .null, .null, .null, .null, .null, .int 0, .int 0, .int 0, .int 0, .int 0, .int 0, .int 0, .int 0, .int 0, .null, .null, .null, .null, .null, .null, .null, .null, .null, .null, .null, .null, .null, .null, .null, .int 0, .int 0, .int 0, .int 0, .int 0, .int 0, .int 0, .int 0, .int 0, .int 0, .int 0, .int 0, .int 0, .int 0, .int 0, .int 0, .int 0, .int 0, .null, .null, .null, .int 0, .int 0, .null, .null, .null, .int 0, .null, .null, .null, .null, .null, .int 0, .int 0, .null, .null, .null, .null]))] H := hP7
  clear hP7
  have hD9 : va_D (fun q : Nat => s.heap.size ≤ q) [(q1, .inr (10, [.ref (x2 0), .ref (x2 2), .ref (x2 26), .ref (x2 21), .ref (x2 20), .ref (x2 25), .ref (x2 29), .ref (x2 31), .ref (x2 35), .int 0])), ((x2 0), .inr (9, [.ref (x2 1), .int 0, .int 0, .int 0, .int 0, .int 0])), ((x2 1), .inl (cy 0, 1600, .inl zF)), ((x2 2), .inr (6, [.ref (x2 0), .ref (x2 3), .ref (x2 11), .ref (x2 12), .int 0, .int 0, .int (-1)])), ((x2 3), .inr (7, [.ref (x2 4), .ref (x2 5), .ref (x2 6), .int 0, .int 0, .int 10, .int 150, .int 2, .int 0, .int 0])), ((x2 4), .inl (cy 1, 18, .inl zF)), ((x2 5), .inl (cy 1, 24, .inl zF)), ((x2 6), .inr (4, [.ref (x2 7), .ref (x2 8), .ref (x2 9), .ref (x2 10), .int 0, .int 0])), ((x2 7), .inl (cy 1, 300, .inl zF)), ((x2 8), .inl (cy 1, 300, .inl zF)), ((x2 9), .inl (cy 1, 30, .inl zF)), ((x2 10), .inl (cy 1, 6, .inl zF)), ((x2 11), .inl (cy 1, 6, .inl zF)), ((x2 12), .inl (cy 1, 6, .inl zF)), ((x2 13), .inl (cy 1, 18, .inl zF)), ((x2 14), .inl (cy 1, 24, .inl zF)), ((x2 15), .inr (4, [.ref (x2 16), .ref (x2 17), .ref (x2 18), .ref (x2 19), .int 0, .int 0])), ((x2 16), .inl (cy 1, 300, .inl zF)), ((x2 17), .inl (cy 1, 300, .inl zF)), ((x2 18), .inl (cy 1, 30, .inl zF)), ((x2 19), .inl (cy 1, 6, .inl zF)), ((x2 20), .inr (5, [.ref (x2 21), .ref (x2 24), .ref (x2 23), .int 0, .int 0, .int 0, .int 0])), ((x2 21), .inr (1, [.ref (x2 26), .ref (x2 22)])), ((x2 22), .inl (cy 1, 44, .inl cF)), ((x2 23), .inl (cy 1, 132, .inl zF)), ((x2 24), .inl (cy 1, 1804, .inl (va_cpy cF zF 0 0 44))), ((x2 25), .inr (3, [.ref (x2 26), .ref (x2 21), .ref (x2 27), .int 0, .int 0, .int 0, .int 0, .int 0, .int 0, .int 0])), ((x2 26), .inr (7, [.ref (x2 13), .ref (x2 14), .ref (x2 15), .int 0, .int 0, .int 10, .int 150, .int 2, .int 0, .int 0])), ((x2 27), .inr (1, [.ref (x2 26), .ref (x2 28)])), ((x2 28), .inl (cy 1, 44, .inl cF)), ((x2 29), .inr (2, [.ref (x2 26), .ref (x2 21), .ref (x2 30)])), ((x2 30), .inl (cy 1, 64, .inl zF)), ((x2 31), .inr (0, [.ref (x2 26), .ref (x2 21), .ref (x2 32), .int 0, .ref (x2 33), .ref (x2 34), .int 0, .int 0])), ((x2 32), .inl (cy 1, 6, .inl zF)), ((x2 33), .inl (cy 1, 448, .inl zF)), ((x2 34), .inl (cy 1, 36, .inl zF)), ((x2 35), .inr (8, [.ref (x2 26), .ref (x2 36), .ref (x2 37), .ref (x2 38), .ref (x2 39), .int 0, .ref (x2 40)])), ((x2 36), .inl (cy 1, 30, .inl zF)), ((x2 37), .inl (cy 3, 30, .inl zF)), ((x2 38), .inl (cy 1, 30, .inl zF)), ((x2 39), .inl (cy 1, 30, .inl zF)), ((x2 40), .inl (cy 1, 21, .inl (fiF zF (-1) 21))), (q3, .inr (11, [.null, .int 0, .int 0, .int 0, .int 0, .int 0, .int 0, .int 0, .int 0, .long 0, .null, .null, .null, .null, .null, .null, .null, .int 0, .int 0, .int 0, .int 0, .int 0, .int 0, .int 0, .int 0, .int 0, .null, .null, .null, .null, .null, .null, .null, .null, .null, .null, .null, .null, .null, .null, .null, .int 0, .int 0, .int 0, .int 0, .int 0, .int 0, .int 0, .int 0, .int 0, .int 0, .int 0, .int 0, .int 0, .int 0, .int 0, .int 0, .int 0, .int 0, .null, .null, .null, .int 0, .int 0, .null, .null, .null, .int 0, .null, .null, .null, .null, .null, .int 0, .int 0, .null, .null, .null, .null]))] := hD7
  clear hD7
  refine W.widen (k := 43) (n := 5860) (Nat.le_of_ble_eq_true rfl) (Nat.le_of_ble_eq_true rfl) ?_
  refine lv_dup hx hb dL_law_11 rfl ?_
  refine caI (n := 0) (wr := [(q1, .inr (10, [.ref (x2 0), .ref (x2 2), .ref (x2 26), .ref (x2 21), .ref (x2 20), .ref (x2 25), .ref (x2 29), .ref (x2 31), .ref (x2 35), .int 0])), ((x2 0), .inr (9, [.ref (x2 1), .int 0, .int 0, .int 0, .int 0, .int 0])), ((x2 1), .inl (cy 0, 1600, .inl zF)), ((x2 2), .inr (6, [.ref (x2 0), .ref (x2 3), .ref (x2 11), .ref (x2 12), .int 0, .int 0, .int (-1)])), ((x2 3), .inr (7, [.ref (x2 4), .ref (x2 5), .ref (x2 6), .int 0, .int 0, .int 10, .int 150, .int 2, .int 0, .int 0])), ((x2 4), .inl (cy 1, 18, .inl zF)), ((x2 5), .inl (cy 1, 24, .inl zF)), ((x2 6), .inr (4, [.ref (x2 7), .ref (x2 8), .ref (x2 9), .ref (x2 10), .int 0, .int 0])), ((x2 7), .inl (cy 1, 300, .inl zF)), ((x2 8), .inl (cy 1, 300, .inl zF)), ((x2 9), .inl (cy 1, 30, .inl zF)), ((x2 10), .inl (cy 1, 6, .inl zF)), ((x2 11), .inl (cy 1, 6, .inl zF)), ((x2 12), .inl (cy 1, 6, .inl zF)), ((x2 13), .inl (cy 1, 18, .inl zF)), ((x2 14), .inl (cy 1, 24, .inl zF)), ((x2 15), .inr (4, [.ref (x2 16), .ref (x2 17), .ref (x2 18), .ref (x2 19), .int 0, .int 0])), ((x2 16), .inl (cy 1, 300, .inl zF)), ((x2 17), .inl (cy 1, 300, .inl zF)), ((x2 18), .inl (cy 1, 30, .inl zF)), ((x2 19), .inl (cy 1, 6, .inl zF)), ((x2 20), .inr (5, [.ref (x2 21), .ref (x2 24), .ref (x2 23), .int 0, .int 0, .int 0, .int 0])), ((x2 21), .inr (1, [.ref (x2 26), .ref (x2 22)])), ((x2 22), .inl (cy 1, 44, .inl cF)), ((x2 23), .inl (cy 1, 132, .inl zF)), ((x2 24), .inl (cy 1, 1804, .inl (va_cpy cF zF 0 0 44))), ((x2 25), .inr (3, [.ref (x2 26), .ref (x2 21), .ref (x2 27), .int 0, .int 0, .int 0, .int 0, .int 0, .int 0, .int 0])), ((x2 26), .inr (7, [.ref (x2 13), .ref (x2 14), .ref (x2 15), .int 0, .int 0, .int 10, .int 150, .int 2, .int 0, .int 0])), ((x2 27), .inr (1, [.ref (x2 26), .ref (x2 28)])), ((x2 28), .inl (cy 1, 44, .inl cF)), ((x2 29), .inr (2, [.ref (x2 26), .ref (x2 21), .ref (x2 30)])), ((x2 30), .inl (cy 1, 64, .inl zF)), ((x2 31), .inr (0, [.ref (x2 26), .ref (x2 21), .ref (x2 32), .int 0, .ref (x2 33), .ref (x2 34), .int 0, .int 0])), ((x2 32), .inl (cy 1, 6, .inl zF)), ((x2 33), .inl (cy 1, 448, .inl zF)), ((x2 34), .inl (cy 1, 36, .inl zF)), ((x2 35), .inr (8, [.ref (x2 26), .ref (x2 36), .ref (x2 37), .ref (x2 38), .ref (x2 39), .int 0, .ref (x2 40)])), ((x2 36), .inl (cy 1, 30, .inl zF)), ((x2 37), .inl (cy 3, 30, .inl zF)), ((x2 38), .inl (cy 1, 30, .inl zF)), ((x2 39), .inl (cy 1, 30, .inl zF)), ((x2 40), .inl (cy 1, 21, .inl (fiF zF (-1) 21)))]) (rest := [.ref q3]) hx hb hml hown hts hE hP8 hD9 hS7 hA (cnX11_init_1 l dC dI cy q3) k_1316 k_1317 k_114 k_1318 rfl (by decide +kernel) ⟨Nat.le_of_ble_eq_true rfl, Nat.le_of_ble_eq_true rfl⟩ [42] [0, 1, 2, 3, 4, 5, 6, 7, 8, 9, 10, 11, 12, 13, 14, 15, 16, 17, 18, 19, 20, 21, 22, 23, 24, 25, 26, 27, 28, 29, 30, 31, 32, 33, 34, 35, 36, 37, 38, 39, 40, 41] rfl rfl rfl (by decide) (by decide) (by decide) rfl hl.1 rfl (Nat.le_of_ble_eq_true rfl) dL_law_12 ⟨Nat.le_of_ble_eq_true rfl, Nat.le_of_ble_eq_true rfl⟩ (fun u H locs hw hP10 hD10 hS10 => ?_)
  clear hP8 hD9 hS7
  obtain ⟨r4, er4⟩ : ∃ z, z = u := ⟨_, rfl⟩
  rw [← er4] at hP10 hD10
  have hP11 : va_P (dC, dI) vwCl [(q1, .inr (10, [.ref (x2 0), .ref (x2 2), .ref (x2 26), .ref (x2 21), .ref (x2 20), .ref (x2 25), .ref (x2 29), .ref (x2 31), .ref (x2 35), .int 0])), ((x2 0), .inr (9, [.ref (x2 1), .int 0, .int 0, .int 0, .int 0, .int 0])), ((x2 1), .inl (cy 0, 1600, .inl zF)), ((x2 2), .inr (6, [.ref (x2 0), .ref (x2 3), .ref (x2 11), .ref (x2 12), .int 0, .int 0, .int (-1)])), ((x2 3), .inr (7, [.ref (x2 4), .ref (x2 5), .ref (x2 6), .int 0, .int 0, .int 10, .int 150, .int 2, .int 0, .int 0])), ((x2 4), .inl (cy 1, 18, .inl zF)), ((x2 5), .inl (cy 1, 24, .inl zF)), ((x2 6), .inr (4, [.ref (x2 7), .ref (x2 8), .ref (x2 9), .ref (x2 10), .int 0, .int 0])), ((x2 7), .inl (cy 1, 300, .inl zF)), ((x2 8), .inl (cy 1, 300, .inl zF)), ((x2 9), .inl (cy 1, 30, .inl zF)), ((x2 10), .inl (cy 1, 6, .inl zF)), ((x2 11), .inl (cy 1, 6, .inl zF)), ((x2 12), .inl (cy 1, 6, .inl zF)), ((x2 13), .inl (cy 1, 18, .inl zF)), ((x2 14), .inl (cy 1, 24, .inl zF)), ((x2 15), .inr (4, [.ref (x2 16), .ref (x2 17), .ref (x2 18), .ref (x2 19), .int 0, .int 0])), ((x2 16), .inl (cy 1, 300, .inl zF)), ((x2 17), .inl (cy 1, 300, .inl zF)), ((x2 18), .inl (cy 1, 30, .inl zF)), ((x2 19), .inl (cy 1, 6, .inl zF)), ((x2 20), .inr (5, [.ref (x2 21), .ref (x2 24), .ref (x2 23), .int 0, .int 0, .int 0, .int 0])), ((x2 21), .inr (1, [.ref (x2 26), .ref (x2 22)])), ((x2 22), .inl (cy 1, 44, .inl cF)), ((x2 23), .inl (cy 1, 132, .inl zF)), ((x2 24), .inl (cy 1, 1804, .inl (va_cpy cF zF 0 0 44))), ((x2 25), .inr (3, [.ref (x2 26), .ref (x2 21), .ref (x2 27), .int 0, .int 0, .int 0, .int 0, .int 0, .int 0, .int 0])), ((x2 26), .inr (7, [.ref (x2 13), .ref (x2 14), .ref (x2 15), .int 0, .int 0, .int 10, .int 150, .int 2, .int 0, .int 0])), ((x2 27), .inr (1, [.ref (x2 26), .ref (x2 28)])), ((x2 28), .inl (cy 1, 44, .inl cF)), ((x2 29), .inr (2, [.ref (x2 26), .ref (x2 21), .ref (x2 30)])), ((x2 30), .inl (cy 1, 64, .inl zF)), ((x2 31), .inr (0, [.ref (x2 26), .ref (x2 21), .ref (x2 32), .int 0, .ref (x2 33), .ref (x2 34), .int 0, .int 0])), ((x2 32), .inl (cy 1, 6, .inl zF)), ((x2 33), .inl (cy 1, 448, .inl zF)), ((x2 34), .inl (cy 1, 36, .inl zF)), ((x2 35), .inr (8, [.ref (x2 26), .ref (x2 36), .ref (x2 37), .ref (x2 38), .ref (x2 39), .int 0, .ref (x2 40)])), ((x2 36), .inl (cy 1, 30, .inl zF)), ((x2 37), .inl (cy 3, 30, .inl zF)), ((x2 38), .inl (cy 1, 30, .inl zF)), ((x2 39), .inl (cy 1, 30, .inl zF)), ((x2 40), .inl (cy 1, 21, .inl (fiF zF (-1) 21))), (q3, .inr (11, [.ref (r4 0), .int 0, .int 0, .int (-1), .int 0, .int 0, .int 0, .int 0, .int 0, .long 0, .ref (r4 10), .ref (r4 11), .ref (r4 12), .ref (r4 13), .ref (r4 14), .ref (r4 15), .ref (r4 16), .int 0, .int 0, .int 0, .int 0, .int 0, .int 0, .int 0, .int 0, .int 0, .ref (r4 26), .ref (r4 27), .ref (r4 28), .ref (r4 29), .ref (r4 30), .ref (r4 31), .ref (r4 32), .ref (r4 33), .ref (r4 34), .ref (r4 35), .ref (r4 36), .ref (r4 37), .ref (r4 38), .ref (r4 39), .ref (r4 40), .int 0, .int 0, .int 0, .int 0, .int 0, .int 0, .int 0, .int 0, .int 0, .int 10, .int 150, .int 2, .int 0, .int 0, .int 0, .int 0, .int 0, .int 0, .ref (r4 59), .ref (r4 60), .ref (r4 61), .int 0, .int 0, .ref (r4 64), .ref (r4 65), .ref (r4 66), .int 0, .ref (r4 68), .ref (r4 69), .ref (r4 70), .ref (r4 71), .ref (r4 72), .int 0, .int 0, .ref (r4 75), .ref (r4 76), .ref (r4 77), .ref (r4 78)])), ((r4 0), .inl (cy 1, 1600, .inl zF)), ((r4 10), .inl (cy 2, 12, .inr (.inl zL))), ((r4 11), .inl (cy 1, 320, .inl zF)), ((r4 12), .inl (cy 1, 320, .inl zF)), ((r4 13), .inl (cy 1, 320, .inl zF)), ((r4 14), .inl (cy 1, 320, .inl zF)), ((r4 15), .inl (cy 1, 160, .inl zF)), ((r4 16), .inl (cy 1, 64, .inl zF)), ((r4 26), .inl (cy 1, 6, .inl zF)), ((r4 27), .inl (cy 1, 6, .inl zF)), ((r4 28), .inl (cy 1, 6, .inl zF)), ((r4 29), .inl (cy 1, 6, .inl zF)), ((r4 30), .inl (cy 1, 6, .inl zF)), ((r4 31), .inl (cy 1, 6, .inl zF)), ((r4 32), .inl (cy 1, 6, .inl zF)), ((r4 33), .inl (cy 1, 6, .inl zF)), ((r4 34), .inl (cy 1, 6, .inl zF)), ((r4 35), .inl (cy 1, 6, .inl zF)), ((r4 36), .inl (cy 1, 6, .inl zF)), ((r4 37), .inl (cy 1, 6, .inl zF)), ((r4 38), .inl (cy 1, 6, .inl zF)), ((r4 39), .inl (cy 1, 6, .inl zF)), ((r4 40), .inl (cy 1, 6, .inl zF)), ((r4 59), .inl (cy 1, 39, .inl zF)), ((r4 60), .inl (cy 1, 39, .inl zF)), ((r4 61), .inl (cy 1, 1560, .inl zF)), ((r4 64), .inl (cy 1, 6, .inl zF)), ((r4 65), .inl (cy 1, 6, .inl zF)), ((r4 66), .inl (cy 1, 36, .inl zF)), ((r4 68), .inl (cy 1, 64, .inl zF)), ((r4 69), .inl (cy 1, 30, .inl zF)), ((r4 70), .inl (cy 1, 30, .inl zF)), ((r4 71), .inl (cy 1, 30, .inl zF)), ((r4 72), .inl (cy 3, 30, .inl zF)), ((r4 75), .inl (cy 3, 651, .inl zF)), ((r4 76), .inl (cy 3, 31, .inl zF)), ((r4 77), .inl (cy 3, 3, .inl zF)), ((r4 78), .inl (cy 1, 117, .inl zF))] H := hP10
  clear hP10
  have hD12 : va_D (fun q : Nat => s.heap.size ≤ q) [(q1, .inr (10, [.ref (x2 0), .ref (x2 2), .ref (x2 26), .ref (x2 21), .ref (x2 20), .ref (x2 25), .ref (x2 29), .ref (x2 31), .ref (x2 35), .int 0])), ((x2 0), .inr (9, [.ref (x2 1), .int 0, .int 0, .int 0, .int 0, .int 0])), ((x2 1), .inl (cy 0, 1600, .inl zF)), ((x2 2), .inr (6, [.ref (x2 0), .ref (x2 3), .ref (x2 11), .ref (x2 12), .int 0, .int 0, .int (-1)])), ((x2 3), .inr (7, [.ref (x2 4), .ref (x2 5), .ref (x2 6), .int 0, .int 0, .int 10, .int 150, .int 2, .int 0, .int 0])), ((x2 4), .inl (cy 1, 18, .inl zF)), ((x2 5), .inl (cy 1, 24, .inl zF)), ((x2 6), .inr (4, [.ref (x2 7), .ref (x2 8), .ref (x2 9), .ref (x2 10), .int 0, .int 0])), ((x2 7), .inl (cy 1, 300, .inl zF)), ((x2 8), .inl (cy 1, 300, .inl zF)), ((x2 9), .inl (cy 1, 30, .inl zF)), ((x2 10), .inl (cy 1, 6, .inl zF)), ((x2 11), .inl (cy 1, 6, .inl zF)), ((x2 12), .inl (cy 1, 6, .inl zF)), ((x2 13), .inl (cy 1, 18, .inl zF)), ((x2 14), .inl (cy 1, 24, .inl zF)), ((x2 15), .inr (4, [.ref (x2 16), .ref (x2 17), .ref (x2 18), .ref (x2 19), .int 0, .int 0])), ((x2 16), .inl (cy 1, 300, .inl zF)), ((x2 17), .inl (cy 1, 300, .inl zF)), ((x2 18), .inl (cy 1, 30, .inl zF)), ((x2 19), .inl (cy 1, 6, .inl zF)), ((x2 20), .inr (5, [.ref (x2 21), .ref (x2 24), .ref (x2 23), .int 0, .int 0, .int 0, .int 0])), ((x2 21), .inr (1, [.ref (x2 26), .ref (x2 22)])), ((x2 22), .inl (cy 1, 44, .inl cF)), ((x2 23), .inl (cy 1, 132, .inl zF)), ((x2 24), .inl (cy 1, 1804, .inl (va_cpy cF zF 0 0 44))), ((x2 25), .inr (3, [.ref (x2 26), .ref (x2 21), .ref (x2 27), .int 0, .int 0, .int 0, .int 0, .int 0, .int 0, .int 0])), ((x2 26), .inr (7, [.ref (x2 13), .ref (x2 14), .ref (x2 15), .int 0, .int 0, .int 10, .int 150, .int 2, .int 0, .int 0])), ((x2 27), .inr (1, [.ref (x2 26), .ref (x2 28)])), ((x2 28), .inl (cy 1, 44, .inl cF)), ((x2 29), .inr (2, [.ref (x2 26), .ref (x2 21), .ref (x2 30)])), ((x2 30), .inl (cy 1, 64, .inl zF)), ((x2 31), .inr (0, [.ref (x2 26), .ref (x2 21), .ref (x2 32), .int 0, .ref (x2 33), .ref (x2 34), .int 0, .int 0])), ((x2 32), .inl (cy 1, 6, .inl zF)), ((x2 33), .inl (cy 1, 448, .inl zF)), ((x2 34), .inl (cy 1, 36, .inl zF)), ((x2 35), .inr (8, [.ref (x2 26), .ref (x2 36), .ref (x2 37), .ref (x2 38), .ref (x2 39), .int 0, .ref (x2 40)])), ((x2 36), .inl (cy 1, 30, .inl zF)), ((x2 37), .inl (cy 3, 30, .inl zF)), ((x2 38), .inl (cy 1, 30, .inl zF)), ((x2 39), .inl (cy 1, 30, .inl zF)), ((x2 40), .inl (cy 1, 21, .inl (fiF zF (-1) 21))), (q3, .inr (11, [.ref (r4 0), .int 0, .int 0, .int (-1), .int 0, .int 0, .int 0, .int 0, .int 0, .long 0, .ref (r4 10), .ref (r4 11), .ref (r4 12), .ref (r4 13), .ref (r4 14), .ref (r4 15), .ref (r4 16), .int 0, .int 0, .int 0, .int 0, .int 0, .int 0, .int 0, .int 0, .int 0, .ref (r4 26), .ref (r4 27), .ref (r4 28), .ref (r4 29), .ref (r4 30), .ref (r4 31), .ref (r4 32), .ref (r4 33), .ref (r4 34), .ref (r4 35), .ref (r4 36), .ref (r4 37), .ref (r4 38), .ref (r4 39), .ref (r4 40), .int 0, .int 0, .int 0, .int 0, .int 0, .int 0, .int 0, .int 0, .int 0, .int 10, .int 150, .int 2, .int 0, .int 0, .int 0, .int 0, .int 0, .int 0, .ref (r4 59), .ref (r4 60), .ref (r4 61), .int 0, .int 0, .ref (r4 64), .ref (r4 65), .ref (r4 66), .int 0, .ref (r4 68), .ref (r4 69), .ref (r4 70), .ref (r4 71), .ref (r4 72), .int 0, .int 0, .ref (r4 75), .ref (r4 76), .ref (r4 77), .ref (r4 78)])), ((r4 0), .inl (cy 1, 1600, .inl zF)), ((r4 10), .inl (cy 2, 12, .inr (.inl zL))), ((r4 11), .inl (cy 1, 320, .inl zF)), ((r4 12), .inl (cy 1, 320, .inl zF)), ((r4 13), .inl (cy 1, 320, .inl zF)), ((r4 14), .inl (cy 1, 320, .inl zF)), ((r4 15), .inl (cy 1, 160, .inl zF)), ((r4 16), .inl (cy 1, 64, .inl zF)), ((r4 26), .inl (cy 1, 6, .inl zF)), ((r4 27), .inl (cy 1, 6, .inl zF)), ((r4 28), .inl (cy 1, 6, .inl zF)), ((r4 29), .inl (cy 1, 6, .inl zF)), ((r4 30), .inl (cy 1, 6, .inl zF)), ((r4 31), .inl (cy 1, 6, .inl zF)), ((r4 32), .inl (cy 1, 6, .inl zF)), ((r4 33), .inl (cy 1, 6, .inl zF)), ((r4 34), .inl (cy 1, 6, .inl zF)), ((r4 35), .inl (cy 1, 6, .inl zF)), ((r4 36), .inl (cy 1, 6, .inl zF)), ((r4 37), .inl (cy 1, 6, .inl zF)), ((r4 38), .inl (cy 1, 6, .inl zF)), ((r4 39), .inl (cy 1, 6, .inl zF)), ((r4 40), .inl (cy 1, 6, .inl zF)), ((r4 59), .inl (cy 1, 39, .inl zF)), ((r4 60), .inl (cy 1, 39, .inl zF)), ((r4 61), .inl (cy 1, 1560, .inl zF)), ((r4 64), .inl (cy 1, 6, .inl zF)), ((r4 65), .inl (cy 1, 6, .inl zF)), ((r4 66), .inl (cy 1, 36, .inl zF)), ((r4 68), .inl (cy 1, 64, .inl zF)), ((r4 69), .inl (cy 1, 30, .inl zF)), ((r4 70), .inl (cy 1, 30, .inl zF)), ((r4 71), .inl (cy 1, 30, .inl zF)), ((r4 72), .inl (cy 3, 30, .inl zF)), ((r4 75), .inl (cy 3, 651, .inl zF)), ((r4 76), .inl (cy 3, 31, .inl zF)), ((r4 77), .inl (cy 3, 3, .inl zF)), ((r4 78), .inl (cy 1, 117, .inl zF))] := hD10
  clear hD10
  refine W.widen (k := 81) (n := 11738) (Nat.le_of_ble_eq_true rfl) (Nat.le_of_ble_eq_true rfl) ?_
  refine lv_astore_n (lv' := [(2, .ref q3), (1, .ref q1), (0, .ref b)]) hx hb dL_law_15 rfl hl (by decide) rfl (fun ls hl => ?_)
  refine lv_iconst (v := 0) hx hb dL_law_16 (by decide) ?_
  refine lv_istore_n (lv' := [(3, .int 0), (2, .ref q3), (1, .ref q1), (0, .ref b)]) hx hb dL_law_17 rfl hl (by decide) rfl (fun ls hl => ?_)
  have hP := hP11
  clear hP11
  have hD := hD12
  clear hD12
  have hS := hS10
  clear hS10
  have hP := hP.sub (ws' := XW cy q1 x2 xv0 xf0 ++ YW cy q3 r4 yv0 yf0 0 zL) [0, 1, 2, 3, 4, 5, 6, 7, 8, 9, 10, 11, 12, 13, 14, 15, 16, 17, 18, 19, 20, 21, 22, 23, 24, 25, 26, 27, 28, 29, 30, 31, 32, 33, 34, 35, 36, 37, 38, 39, 40, 41, 42, 43, 44, 45, 46, 47, 48, 49, 50, 51, 52, 53, 54, 55, 56, 57, 58, 59, 60, 61, 62, 63, 64, 65, 66, 67, 68, 69, 70, 71, 72, 73, 74, 75, 76, 77, 78, 79, 80] rfl
  have hD := hD.sub (ws' := XW cy q1 x2 xv0 xf0 ++ YW cy q3 r4 yv0 yf0 0 zL) [0, 1, 2, 3, 4, 5, 6, 7, 8, 9, 10, 11, 12, 13, 14, 15, 16, 17, 18, 19, 20, 21, 22, 23, 24, 25, 26, 27, 28, 29, 30, 31, 32, 33, 34, 35, 36, 37, 38, 39, 40, 41, 42, 43, 44, 45, 46, 47, 48, 49, 50, 51, 52, 53, 54, 55, 56, 57, 58, 59, 60, 61, 62, 63, 64, 65, 66, 67, 68, 69, 70, 71, 72, 73, 74, 75, 76, 77, 78, 79, 80] (by decide) rfl
  have out : ∀ (H : Heap) (locs : List Loc) (ls : Array Slot), va_S (fun q : Nat => s.heap.size ≤ q) s.heap H locs → W p l e room_1 s m #[Value.ref b] below meth c H locs 81 11738 (lw_Z below #[Value.ref b] s) (F0 m 1419 ls []) := by
    intro H locs ls hS
    refine lv_iconst (v := 1) hx hb dL_law_1419 (by decide) ?_
    refine va_forget (fun q hq => hS.2.2 q hq) ?_
    refine W.widen (k := 600000) (n := 7302250) (Nat.le_of_ble_eq_true rfl) (Nat.le_of_ble_eq_true rfl) ?_
    exact lw_ret hx hb hr hlocks dL_law_1420
  exact law_loop hx hb hml hown hts hE hF hT hX hbl hL out _ 0 xv0 xf0 yv0 yf0 0 zL ⟨by decide, by decide⟩ xi0 yi0 yc0 yr0 fr0 (Nat.lt_succ_self _) _ _ _ hP hD hS hl
set_option maxHeartbeats 4000000 in
theorem lw_walk (l : Launch) (hflags : l.flags = flags0) (b : Addr) (xs : List Int32) : MetFree l x (headSpec (Jvm.Cond.code x code maxLocals ret :: tables_1) room_1) (lw_P b xs) (fun _ _ _ _ _ => True) lw_Q := by
  refine MetFree.of_bodyS (code := code) (maxLocals := maxLocals) (ret := ret) (by decide) ?_ ?_
  · intro args s m h hn
    obtain ⟨meth, c, h1, h2, h3, h4, h5, h6, -, -⟩ := Cond.code_spec hn (atoms_spec (ws := Jvm.Cond.code x code maxLocals ret :: tables_1) h _ List.mem_cons_self)
    exact ⟨meth, c, h1, h2, h3, h4, h5, h6⟩
  · intro p e s m args below meth c s₁ B hml0 hP _
    obtain ⟨rfl, hx, hbd, hgv⟩ := hP
    obtain ⟨scr, harrAt, hlist, hof, hsmall⟩ := hx
    obtain ⟨hcb, hkn, -, -⟩ := State.arrayAt?_spec harrAt
    have hown : s.vm.findClass R_law = some m.cls := findClass_of_methodNamed B.named
    have hts0 : ∀ c ∈ (Jvm.Cond.code x code maxLocals ret :: tables_1), c.before #[Value.ref b] s = true := atoms_spec (ws := Jvm.Cond.code x code maxLocals ret :: tables_1) B.pre
    have hts : ∀ w ∈ lw_tbl, w.before #[Value.ref b] s = true := k2_hts_sels lw_privs (fun w hw => hts0 w (List.mem_cons_of_mem _ hw)) lw_privs_ok
    have hml : c.maxLocals = 4 := B.maxLocals_eq (hts0 _ List.mem_cons_self)
    have X₀ : Stand p l e room_1 s m #[Value.ref b] below meth c s₁ [] 0 0 := Stand.of_body B
    have hh0 : s₁.heap = s.heap := by rw [B.state]; rfl
    have hsz : scr.slots.size = xs.length := by rw [← Array.length_toList, hlist, List.length_map]
    have hval : ∀ j : Nat, j < xs.length → scr.slots[j]? = some (.int (xs.getD j 0)) := fun j hj => by
      rw [← Array.getElem?_toList, hlist]
      simp [hj]
    have hbl : b < s.heap.size := (Array.getElem?_eq_some_iff.mp hcb).1
    have hX : va_X b xs.length (fun j => xs.getD j 0) s s.heap := ⟨scr, hcb, hof, hkn, hsz, hval⟩
    have K : W p l e room_1 s m #[Value.ref b] below meth c s₁.heap [] 0 0 (lw_Z below #[Value.ref b] s) (entryFrame m ([Value.ref b] : List Value).toArray 4) := by
      rw [hh0]
      exact whole_start l hflags hbd ⟨B.exec, B.bytes, B.returns, hml, hown, hts, hX, hbl, B.notSynchronized, hgv⟩
    obtain ⟨t, a1, o, b1, b2, b3⟩ := K s₁ rfl X₀
    exact ⟨t, o, a1, b1, b2, b3⟩
theorem lw_pre_spec {args : Array Value} {s : State} (h : (Jvm.Cond.and given_1 narrow_1).before args s = true) (hr : rest_1_c.before args s = true) : ∃ (b : Addr) (xs : List Int32), lw_P b xs args s := by
  have hs := flat_of_before _ h
  have hq := flat_of_before _ hr
  have hc : (Cond.count 1).before args s = true := hs _ (by decide +kernel)
  have harr : (Cond.arrayOf (.arg 0) .int).before args s = true := hs _ (by decide +kernel)
  have hle : (Cond.le (.length (.arg 0)) (.int 3072)).before args s = true := hs _ (by decide +kernel)
  have hlen : (Cond.isInt (.length (.arg 0))).before args s = true := hq _ (by decide +kernel)
  have hall : (Cond.all (.arg 0) (.isInt (.elem (.arg 0) (.index 0)))).before args s = true := hq _ (by decide +kernel)
  obtain ⟨b, xs, hb, hx⟩ := State.ints_of_pre rfl harr hlen hall
  have hsm : xs.length < 2 ^ 31 := hx.choose_spec.2.2.2
  have hev : (Term.length (.arg 0)).eval args s none [] s = some (.int xs.length.toInt32) := hx.length_eval hb
  have hv := Cond.le_ints hev (show (Term.int 3072).eval args s none [] s = some (.int 3072) from rfl)
  have hd : xs.length.toInt32 ≤ 3072 := by
    simpa [Cond.before, Cond.holds, hv] using hle
  have hN : xs.length ≤ 3072 := (Int32.ofNat_le_ofNat hsm (by decide)).mp (show Int32.ofNat xs.length ≤ Int32.ofNat 3072 from hd)
  exact ⟨b, xs, Cond.one_arg hc (show args[0]? = some (.ref b) from hb), hx, hN, h⟩
theorem lw_comes (l : Launch) (hflags : l.flags = flags0) : Comes l x (Jvm.Cond.code x code maxLocals ret :: tables_1) room_1 (fun tb e args s => Calls_1 tb e args s ∧ rest_1 tb e args s ∧ Pre_1 tb e args s)
    (fun _ _ args s o t => lw_Q args s o t) := by
  intro p e ha hc hk s m args below hf hfit hheap happ hpre
  obtain ⟨b, xs, hP⟩ := lw_pre_spec hpre.2.2 hpre.2.1
  obtain ⟨k, o, h1, h2, h3, hQ⟩ := lw_walk l hflags b xs p e ha hc hk s m args below hf ((Spec.applies_iff_loose hf).mp happ).1 hP trivial
  exact ⟨k, o, h1, h2, h3, hQ⟩
theorem lw_frame {s t : State} {o : Outcome} {args : Array Value} (h : Framed s o t [] 600000 7302250) :
    Framed s o t (fieldLocs frame_1_writes args s ++ arrayLocs frame_1_arrays args s ++ staticLocs frame_1_statics s) 600000 7302250 := h
theorem lw_limb (L : Cond) (hL : ∀ (args : Array Value) (s t : State), L.after args s (.returned (some (.int 1))) t = true) :
    ArmFor flags0 classFile x code maxLocals ret World_1 tables_1 room_1 Calls_1 rest_1 Pre_1
      (fun tb e a s o t => postC L tb e a s o t ∧ Framed s o t (fieldLocs frame_1_writes a s ++ arrayLocs frame_1_arrays a s ++ staticLocs frame_1_statics s) 600000 7302250) := by
  intro l hflags _ _ p e ha hc hk s m args below hf hfit hheap happ hpre
  obtain ⟨k, o, h1, h2, h3, rfl, hF⟩ := lw_comes l hflags p e ha hc hk s m args below hf hfit hheap happ hpre
  exact ⟨k, _, h1, h2, h3, hL args s _, lw_frame hF⟩
theorem i_vc : Claimed_1_1 ∧ Claimed_1_2 := ⟨lw_limb limb_1_1 (fun args s t => by simp [limb_1_1, Cond.after, Cond.holds, Cond.value]), lw_limb limb_1_2 (fun args s t => Cond.after_iff.mpr (by
  first | (rw [show limb_1_2 = Cond.eq .result (.int 1) from rfl, Cond.eq_ints (x := 1) (y := 1) rfl rfl]; simp; done) | (simp [limb_1_2, Cond.value, Term.eval]; done)))⟩
