def R_law : String := "TailorRegimentLaw"
def lw_P (b : Addr) (xs : List Int32) (args : Array Value) (s : State) : Prop := args = #[.ref b] ∧ s.IntsAt b xs ∧ xs.length ≤ 6 ∧ (Jvm.Cond.and given_1 narrow_1).before args s = true
def lw_Q (_ : Array Value) (s : State) (o : Outcome) (t : State) : Prop := o = .returned (some (.int 1)) ∧ Framed s o t [] 600000 7302250
def lw_Z (below : List Frame) (a : Array Value) (s : State) : State → Prop := fun t => ∃ o, t.status = .running ∧ Ended t below o ∧ lw_Q a s o t
/-- the law's own end, with 1 on the stack, nothing written that was there before, its room as the claim has it -/
theorem lw_ret {p : Program} {l : Launch} {e : Env} {s : State} {m : MethodId} {below : List Frame} {meth : Method} {c : Code} {b : Nat} (hx : p.tables.exec = Jvm.exec) (hb : c.code = code) (hr : meth.sig.returnType = ret) (hlocks : meth.locks = false) {pc : Nat} {H : Heap} {ls : Array Slot} (hdg : decode code pc = .ok (.ireturn, 1)) : W p l e room_1 s m #[Value.ref b] below meth c H [] 600000 7302250 (lw_Z below #[Value.ref b] s) (F0 m pc ls [.int 1]) := by
  intro T hT X
  obtain ⟨fs, hret, hrun, hended, hW, hframe⟩ := X.leave (v := some (.int 1)) (hlocks := hlocks) (fun h => by rw [hr] at h; cases h)
  have hmeth' : T.vm.method? m = some meth := X.method'
  refine ⟨T.setFrames fs, ?_, .returned (some (.int 1)), hrun, hended, rfl, ⟨_, rfl⟩, hW, hframe⟩
  jvm_step X.here [X.here.top, hx, hb, hdg, hmeth', hr, ret, narrow_b1]
  (try refine ⟨rfl, ?_⟩); (try refine ⟨rfl, ?_⟩)
  first | (intro acts; rw [hret _ acts rfl rfl rfl]) | rw [hret _ _ rfl rfl rfl]
  exact Steps.refl _
/-- what holds at the law's entry: the machine, the code, the tables' words (any of lw_tbl by 'hts w (by decide +kernel)'), the script of L ints xs at the cell b, what the Statement gives of the start (any of its parts by flat_of_before) -/
def lw_At (p : Program) (s : State) (m : MethodId) (meth : Method) (c : Code) (b L : Nat) (xs : Nat → Int32) : Prop :=
  p.tables.exec = Jvm.exec ∧ c.code = code ∧ meth.sig.returnType = ret ∧ c.maxLocals = 4 ∧ s.vm.findClass R_law = some m.cls ∧ (∀ w ∈ lw_tbl, w.before #[Value.ref b] s = true) ∧ va_X b L xs s s.heap ∧ b < s.heap.size ∧ meth.locks = false ∧ (Jvm.Cond.and given_1 narrow_1).before #[Value.ref b] s = true

theorem arr_known {a : Array Value} {s : State} {ty : FieldType} (hty : ∀ C, ty ≠ .object C) (h : (Cond.arrayClass ty).before a s = true) : ∃ cA : ClassId, ArrOfT s cA ty ∧ va_RA s cA ty := by
  obtain ⟨cA, kA, comp, h1, h2, h3⟩ := Cond.arrayClass_spec h
  refine ⟨cA, fun n z => ⟨fun k h => (by cases h), kA, h2, comp, h3⟩, ?_⟩
  cases ty <;> first | exact h1 | exact absurd rfl (hty _)
set_option maxHeartbeats 4000000 in
set_option maxRecDepth 100000 in
theorem whole_start {p : Program} {e : Env} {s : State} {m : MethodId} {below : List Frame} {meth : Method} {c : Code} (l : Launch) (hflags : l.flags = flags0) {b L : Nat} {xs : Nat → Int32} (hL : L ≤ 6) (C0 : lw_At p s m meth c b L xs) : W p l e room_1 s m #[Value.ref b] below meth c s.heap [] 0 0 (lw_Z below #[Value.ref b] s) (entryFrame m ([Value.ref b] : List Value).toArray 4) := by
  obtain ⟨hx, hb, hr, hml, hown, hts0, hX, hbl, hlocks, hgv⟩ := C0
  have hown : s.vm.findClass RL = some m.cls := hown
  have hA : ∀ q : Nat, s.heap.size ≤ q → (fun q : Nat => s.heap.size ≤ q) q := fun _ h => h
  have hbA : ¬ (fun q : Nat => s.heap.size ≤ q) b := Nat.not_le.mpr hbl
  have hts : ∀ w ∈ BIG, w.before #[Value.ref b] s = true := fun w h => hts0 w (mBl h)
  obtain ⟨c0, iS0, hKn0⟩ := u_known (C := RX0) (T := TX0) (N := 8) (n := 8) hts inB_0 (hts _ k_425)
  obtain ⟨c1, iS1, hKn1⟩ := u_known (C := RX1) (T := TX1) (N := 2) (n := 2) hts inB_1 (hts _ k_293)
  obtain ⟨c2, iS2, hKn2⟩ := u_known (C := RX2) (T := TX2) (N := 3) (n := 3) hts inB_2 (hts _ k_409)
  obtain ⟨c3, iS3, hKn3⟩ := u_known (C := RX3) (T := TX3) (N := 10) (n := 10) hts inB_3 (hts _ k_363)
  obtain ⟨c4, iS4, hKn4⟩ := u_known (C := RX4) (T := TX4) (N := 6) (n := 6) hts inB_4 (hts _ k_173)
  obtain ⟨c5, iS5, hKn5⟩ := u_known (C := RX5) (T := TX5) (N := 7) (n := 7) hts inB_5 (hts _ k_326)
  obtain ⟨c6, iS6, hKn6⟩ := u_known (C := RX6) (T := TX6) (N := 7) (n := 7) hts inB_6 (hts _ k_161)
  obtain ⟨c7, iS7, hKn7⟩ := u_known (C := RX7) (T := TX7) (N := 10) (n := 10) hts inB_7 (hts _ k_167)
  obtain ⟨c8, iS8, hKn8⟩ := u_known (C := RX8) (T := TX8) (N := 7) (n := 7) hts inB_8 (hts _ k_459)
  obtain ⟨c9, iS9, hKn9⟩ := u_known (C := RX9) (T := TX9) (N := 6) (n := 6) hts inB_9 (hts _ k_131)
  obtain ⟨c10, iS10, hKn10⟩ := u_known (C := RX10) (T := TX10) (N := 10) (n := 10) hts inB_10 (hts _ k_123)
  obtain ⟨c11, iS11, hKn11⟩ := u_known (C := RX11) (T := TX11) (N := 79) (n := 79) hts inB_11 (hts _ k_1315)
  obtain ⟨cA0, hA0⟩ := arr_known (ty := .byte) (fun C h => by cases h) (hts _ k_159)
  obtain ⟨cA1, hA1⟩ := arr_known (ty := .int) (fun C h => by cases h) (hts _ k_199)
  obtain ⟨cA2, hA2⟩ := arr_known (ty := .long) (fun C h => by cases h) (hts _ k_1558)
  obtain ⟨cA3, hA3⟩ := arr_known (ty := .boolean) (fun C h => by cases h) (hts _ k_490)
  obtain ⟨dC, dI, hKc⟩ : ∃ (dC : Nat → ClassId) (dI : Nat → Nat → Nat), ∀ (k : Nat) (q : vw_C), vwCl[k]? = some q → u_Kn s q.1 q.2.1 q.2.2 (dC k) (dI k) := by
    refine ⟨fun k => if k = 0 then c0 else if k = 1 then c1 else if k = 2 then c2 else if k = 3 then c3 else if k = 4 then c4 else if k = 5 then c5 else if k = 6 then c6 else if k = 7 then c7 else if k = 8 then c8 else if k = 9 then c9 else if k = 10 then c10 else c11, fun k => if k = 0 then iS0 else if k = 1 then iS1 else if k = 2 then iS2 else if k = 3 then iS3 else if k = 4 then iS4 else if k = 5 then iS5 else if k = 6 then iS6 else if k = 7 then iS7 else if k = 8 then iS8 else if k = 9 then iS9 else if k = 10 then iS10 else iS11, ?_⟩
    intro k q hq
    match k, hq with
    | 0, hq => cases hq; exact hKn0
    | 1, hq => cases hq; exact hKn1
    | 2, hq => cases hq; exact hKn2
    | 3, hq => cases hq; exact hKn3
    | 4, hq => cases hq; exact hKn4
    | 5, hq => cases hq; exact hKn5
    | 6, hq => cases hq; exact hKn6
    | 7, hq => cases hq; exact hKn7
    | 8, hq => cases hq; exact hKn8
    | 9, hq => cases hq; exact hKn9
    | 10, hq => cases hq; exact hKn10
    | 11, hq => cases hq; exact hKn11
    | k + 12, hq => simp [vwCl] at hq
  obtain ⟨cy, hcy⟩ : ∃ cy : Nat → ClassId, ∀ (k : Nat) (q : ClassId × FieldType), (TYS cy)[k]? = some q → ArrOfT s q.1 q.2 ∧ va_RA s q.1 q.2 := by
    refine ⟨fun k => if k = 0 then cA0 else if k = 1 then cA1 else if k = 2 then cA2 else cA3, ?_⟩
    intro k q hq
    match k, hq with
    | 0, hq => cases hq; exact hA0
    | 1, hq => cases hq; exact hA1
    | 2, hq => cases hq; exact hA2
    | 3, hq => cases hq; exact hA3
    | k + 4, hq => simp [TYS] at hq
  have hE : ENV (dC, dI) cy s := ⟨⟨hKc, hcy⟩, NW.of hts0⟩
  have hS : va_S (fun q : Nat => s.heap.size ≤ q) s.heap s.heap [] := va_S.rf
  have hP : va_P (dC, dI) vwCl [] s.heap := fun k q h => by simp at h
  have hD : va_D (fun q : Nat => s.heap.size ≤ q) [] := ⟨fun i j p q h => by simp at h, fun k q h => by simp at h⟩
  have hl := lv_entry ([.ref b]) (n := 4) (Nat.le_of_ble_eq_true rfl)
  rw [lg_entry_eq]
  generalize (lg_sl ([.ref b]) ++ List.replicate (4 - (lg_sl ([.ref b])).length) Slot.unset).toArray = ls at hl ⊢
  have hl : lv_has ls 4 [(0, .ref b)] := hl
  refine va_new (ci := 10) (fs := [.null, .null, .null, .null, .null, .null, .null, .null, .null, .int 0]) (C := RX10) (T := TX10) (N := 10) hx hb hts inB_10 tyX10 tyX10_ok hown (hts _ k_122) (hts _ k_123) (hts _ k_101) hE.1 hP hD hS hA rfl nwd_10 (Nat.le_of_ble_eq_true rfl) (Nat.le_of_ble_eq_true rfl) dL_law_0 (fun q1 H hP hD hS => ?_)
  have hP : va_P (dC, dI) vwCl [(q1, .inr (10, [.null, .null, .null, .null, .null, .null, .null, .null, .null, .int 0]))] H := hP
  have hD : va_D (fun q : Nat => s.heap.size ≤ q) [(q1, .inr (10, [.null, .null, .null, .null, .null, .null, .null, .null, .null, .int 0]))] := hD
  refine W.widen (k := 1) (n := 10) (Nat.le_of_ble_eq_true rfl) (Nat.le_of_ble_eq_true rfl) ?_
  refine lv_dup hx hb dL_law_3 rfl ?_
  refine caI (n := 0) (wr := []) (rest := [.ref q1]) hx hb hml hown hts hE hP hD hS hA (cnX10_init_1 l dC dI cy q1) k_124 k_125 k_101 k_126 rfl (by decide +kernel) ⟨Nat.le_of_ble_eq_true rfl, Nat.le_of_ble_eq_true rfl⟩ [0] [] rfl rfl rfl (by decide) (by decide) (by decide) rfl hl.1 rfl (Nat.le_of_ble_eq_true rfl) dL_law_4 ⟨Nat.le_of_ble_eq_true rfl, Nat.le_of_ble_eq_true rfl⟩ (fun u H locs hw hP hD hS => ?_)
  obtain ⟨x2, ex2⟩ : ∃ z, z = u := ⟨_, rfl⟩
  rw [← ex2] at hP hD
  have hP : va_P (dC, dI) vwCl [(q1, .inr (10, [.ref (x2 0), .ref (x2 2), .ref (x2 26), .ref (x2 21), .ref (x2 20), .ref (x2 25), .ref (x2 29), .ref (x2 31), .ref (x2 35), .int 0])), ((x2 0), .inr (9, [.ref (x2 1), .int 0, .int 0, .int 0, .int 0, .int 0])), ((x2 1), .inl (cy 0, 1600, .inl zF)), ((x2 2), .inr (6, [.ref (x2 0), .ref (x2 3), .ref (x2 11), .ref (x2 12), .int 0, .int 0, .int (-1)])), ((x2 3), .inr (7, [.ref (x2 4), .ref (x2 5), .ref (x2 6), .int 0, .int 0, .int 10, .int 150, .int 2, .int 0, .int 0])), ((x2 4), .inl (cy 1, 18, .inl zF)), ((x2 5), .inl (cy 1, 24, .inl zF)), ((x2 6), .inr (4, [.ref (x2 7), .ref (x2 8), .ref (x2 9), .ref (x2 10), .int 0, .int 0])), ((x2 7), .inl (cy 1, 300, .inl zF)), ((x2 8), .inl (cy 1, 300, .inl zF)), ((x2 9), .inl (cy 1, 30, .inl zF)), ((x2 10), .inl (cy 1, 6, .inl zF)), ((x2 11), .inl (cy 1, 6, .inl zF)), ((x2 12), .inl (cy 1, 6, .inl zF)), ((x2 13), .inl (cy 1, 18, .inl zF)), ((x2 14), .inl (cy 1, 24, .inl zF)), ((x2 15), .inr (4, [.ref (x2 16), .ref (x2 17), .ref (x2 18), .ref (x2 19), .int 0, .int 0])), ((x2 16), .inl (cy 1, 300, .inl zF)), ((x2 17), .inl (cy 1, 300, .inl zF)), ((x2 18), .inl (cy 1, 30, .inl zF)), ((x2 19), .inl (cy 1, 6, .inl zF)), ((x2 20), .inr (5, [.ref (x2 21), .ref (x2 24), .ref (x2 23), .int 0, .int 0, .int 0, .int 0])), ((x2 21), .inr (1, [.ref (x2 26), .ref (x2 22)])), ((x2 22), .inl (cy 1, 44, .inl cF)), ((x2 23), .inl (cy 1, 132, .inl zF)), ((x2 24), .inl (cy 1, 1804, .inl (va_cpy cF zF 0 0 44))), ((x2 25), .inr (3, [.ref (x2 26), .ref (x2 21), .ref (x2 27), .int 0, .int 0, .int 0, .int 0, .int 0, .int 0, .int 0])), ((x2 26), .inr (7, [.ref (x2 13), .ref (x2 14), .ref (x2 15), .int 0, .int 0, .int 10, .int 150, .int 2, .int 0, .int 0])), ((x2 27), .inr (1, [.ref (x2 26), .ref (x2 28)])), ((x2 28), .inl (cy 1, 44, .inl cF)), ((x2 29), .inr (2, [.ref (x2 26), .ref (x2 21), .ref (x2 30)])), ((x2 30), .inl (cy 1, 64, .inl zF)), ((x2 31), .inr (0, [.ref (x2 26), .ref (x2 21), .ref (x2 32), .int 0, .ref (x2 33), .ref (x2 34), .int 0, .int 0])), ((x2 32), .inl (cy 1, 6, .inl zF)), ((x2 33), .inl (cy 1, 448, .inl zF)), ((x2 34), .inl (cy 1, 36, .inl zF)), ((x2 35), .inr (8, [.ref (x2 26), .ref (x2 36), .ref (x2 37), .ref (x2 38), .ref (x2 39), .int 0, .ref (x2 40)])), ((x2 36), .inl (cy 1, 30, .inl zF)), ((x2 37), .inl (cy 3, 30, .inl zF)), ((x2 38), .inl (cy 1, 30, .inl zF)), ((x2 39), .inl (cy 1, 30, .inl zF)), ((x2 40), .inl (cy 1, 21, .inl (fiF zF (-1) 21)))] H := hP
  have hD : va_D (fun q : Nat => s.heap.size ≤ q) [(q1, .inr (10, [.ref (x2 0), .ref (x2 2), .ref (x2 26), .ref (x2 21), .ref (x2 20), .ref (x2 25), .ref (x2 29), .ref (x2 31), .ref (x2 35), .int 0])), ((x2 0), .inr (9, [.ref (x2 1), .int 0, .int 0, .int 0, .int 0, .int 0])), ((x2 1), .inl (cy 0, 1600, .inl zF)), ((x2 2), .inr (6, [.ref (x2 0), .ref (x2 3), .ref (x2 11), .ref (x2 12), .int 0, .int 0, .int (-1)])), ((x2 3), .inr (7, [.ref (x2 4), .ref (x2 5), .ref (x2 6), .int 0, .int 0, .int 10, .int 150, .int 2, .int 0, .int 0])), ((x2 4), .inl (cy 1, 18, .inl zF)), ((x2 5), .inl (cy 1, 24, .inl zF)), ((x2 6), .inr (4, [.ref (x2 7), .ref (x2 8), .ref (x2 9), .ref (x2 10), .int 0, .int 0])), ((x2 7), .inl (cy 1, 300, .inl zF)), ((x2 8), .inl (cy 1, 300, .inl zF)), ((x2 9), .inl (cy 1, 30, .inl zF)), ((x2 10), .inl (cy 1, 6, .inl zF)), ((x2 11), .inl (cy 1, 6, .inl zF)), ((x2 12), .inl (cy 1, 6, .inl zF)), ((x2 13), .inl (cy 1, 18, .inl zF)), ((x2 14), .inl (cy 1, 24, .inl zF)), ((x2 15), .inr (4, [.ref (x2 16), .ref (x2 17), .ref (x2 18), .ref (x2 19), .int 0, .int 0])), ((x2 16), .inl (cy 1, 300, .inl zF)), ((x2 17), .inl (cy 1, 300, .inl zF)), ((x2 18), .inl (cy 1, 30, .inl zF)), ((x2 19), .inl (cy 1, 6, .inl zF)), ((x2 20), .inr (5, [.ref (x2 21), .ref (x2 24), .ref (x2 23), .int 0, .int 0, .int 0, .int 0])), ((x2 21), .inr (1, [.ref (x2 26), .ref (x2 22)])), ((x2 22), .inl (cy 1, 44, .inl cF)), ((x2 23), .inl (cy 1, 132, .inl zF)), ((x2 24), .inl (cy 1, 1804, .inl (va_cpy cF zF 0 0 44))), ((x2 25), .inr (3, [.ref (x2 26), .ref (x2 21), .ref (x2 27), .int 0, .int 0, .int 0, .int 0, .int 0, .int 0, .int 0])), ((x2 26), .inr (7, [.ref (x2 13), .ref (x2 14), .ref (x2 15), .int 0, .int 0, .int 10, .int 150, .int 2, .int 0, .int 0])), ((x2 27), .inr (1, [.ref (x2 26), .ref (x2 28)])), ((x2 28), .inl (cy 1, 44, .inl cF)), ((x2 29), .inr (2, [.ref (x2 26), .ref (x2 21), .ref (x2 30)])), ((x2 30), .inl (cy 1, 64, .inl zF)), ((x2 31), .inr (0, [.ref (x2 26), .ref (x2 21), .ref (x2 32), .int 0, .ref (x2 33), .ref (x2 34), .int 0, .int 0])), ((x2 32), .inl (cy 1, 6, .inl zF)), ((x2 33), .inl (cy 1, 448, .inl zF)), ((x2 34), .inl (cy 1, 36, .inl zF)), ((x2 35), .inr (8, [.ref (x2 26), .ref (x2 36), .ref (x2 37), .ref (x2 38), .ref (x2 39), .int 0, .ref (x2 40)])), ((x2 36), .inl (cy 1, 30, .inl zF)), ((x2 37), .inl (cy 3, 30, .inl zF)), ((x2 38), .inl (cy 1, 30, .inl zF)), ((x2 39), .inl (cy 1, 30, .inl zF)), ((x2 40), .inl (cy 1, 21, .inl (fiF zF (-1) 21)))] := hD
  refine W.widen (k := 42) (n := 5781) (Nat.le_of_ble_eq_true rfl) (Nat.le_of_ble_eq_true rfl) ?_
  refine lv_astore_n (lv' := [(1, .ref q1), (0, .ref b)]) hx hb dL_law_7 rfl hl (by decide) rfl (fun ls hl => ?_)
  refine va_new (ci := 11) (fs := [.null, .int 0, .int 0, .int 0, .int 0, .int 0, .int 0, .int 0, .int 0, .long 0, .null, .null, .null, .null, .null, .null, .null, .int 0, .int 0, .int 0, .int 0, .int 0, .int 0, .int 0, .int 0, .int 0, .null, .null, .null, .null, .null, .null, .null, .null, .null, .null, .null, .null, .null, .null, .null, .int 0, .int 0, .int 0, .int 0, .int 0, .int 0, .int 0, .int 0, .int 0, .int 0, .int 0, .int 0, .int 0, .int 0, .int 0, .int 0, .int 0, .int 0, .null, .null, .null, .int 0, .int 0, .null, .null, .null, .int 0, .null, .null, .null, .null, .null, .int 0, .int 0, .null, .null, .null, .null]) (C := RX11) (T := TX11) (N := 79) hx hb hts inB_11 tyX11 tyX11_ok hown (hts _ k_1314) (hts _ k_1315) (hts _ k_114) hE.1 hP hD hS hA rfl nwd_11 (Nat.le_of_ble_eq_true rfl) (Nat.le_of_ble_eq_true rfl) dL_law_8 (fun q3 H hP hD hS => ?_)
  have hP : va_P (dC, dI) vwCl [(q1, .inr (10, [.ref (x2 0), .ref (x2 2), .ref (x2 26), .ref (x2 21), .ref (x2 20), .ref (x2 25), .ref (x2 29), .ref (x2 31), .ref (x2 35), .int 0])), ((x2 0), .inr (9, [.ref (x2 1), .int 0, .int 0, .int 0, .int 0, .int 0])), ((x2 1), .inl (cy 0, 1600, .inl zF)), ((x2 2), .inr (6, [.ref (x2 0), .ref (x2 3), .ref (x2 11), .ref (x2 12), .int 0, .int 0, .int (-1)])), ((x2 3), .inr (7, [.ref (x2 4), .ref (x2 5), .ref (x2 6), .int 0, .int 0, .int 10, .int 150, .int 2, .int 0, .int 0])), ((x2 4), .inl (cy 1, 18, .inl zF)), ((x2 5), .inl (cy 1, 24, .inl zF)), ((x2 6), .inr (4, [.ref (x2 7), .ref (x2 8), .ref (x2 9), .ref (x2 10), .int 0, .int 0])), ((x2 7), .inl (cy 1, 300, .inl zF)), ((x2 8), .inl (cy 1, 300, .inl zF)), ((x2 9), .inl (cy 1, 30, .inl zF)), ((x2 10), .inl (cy 1, 6, .inl zF)), ((x2 11), .inl (cy 1, 6, .inl zF)), ((x2 12), .inl (cy 1, 6, .inl zF)), ((x2 13), .inl (cy 1, 18, .inl zF)), ((x2 14), .inl (cy 1, 24, .inl zF)), ((x2 15), .inr (4, [.ref (x2 16), .ref (x2 17), .ref (x2 18), .ref (x2 19), .int 0, .int 0])), ((x2 16), .inl (cy 1, 300, .inl zF)), ((x2 17), .inl (cy 1, 300, .inl zF)), ((x2 18), .inl (cy 1, 30, .inl zF)), ((x2 19), .inl (cy 1, 6, .inl zF)), ((x2 20), .inr (5, [.ref (x2 21), .ref (x2 24), .ref (x2 23), .int 0, .int 0, .int 0, .int 0])), ((x2 21), .inr (1, [.ref (x2 26), .ref (x2 22)])), ((x2 22), .inl (cy 1, 44, .inl cF)), ((x2 23), .inl (cy 1, 132, .inl zF)), ((x2 24), .inl (cy 1, 1804, .inl (va_cpy cF zF 0 0 44))), ((x2 25), .inr (3, [.ref (x2 26), .ref (x2 21), .ref (x2 27), .int 0, .int 0, .int 0, .int 0, .int 0, .int 0, .int 0])), ((x2 26), .inr (7, [.ref (x2 13), .ref (x2 14), .ref (x2 15), .int 0, .int 0, .int 10, .int 150, .int 2, .int 0, .int 0])), ((x2 27), .inr (1, [.ref (x2 26), .ref (x2 28)])), ((x2 28), .inl (cy 1, 44, .inl cF)), ((x2 29), .inr (2, [.ref (x2 26), .ref (x2 21), .ref (x2 30)])), ((x2 30), .inl (cy 1, 64, .inl zF)), ((x2 31), .inr (0, [.ref (x2 26), .ref (x2 21), .ref (x2 32), .int 0, .ref (x2 33), .ref (x2 34), .int 0, .int 0])), ((x2 32), .inl (cy 1, 6, .inl zF)), ((x2 33), .inl (cy 1, 448, .inl zF)), ((x2 34), .inl (cy 1, 36, .inl zF)), ((x2 35), .inr (8, [.ref (x2 26), .ref (x2 36), .ref (x2 37), .ref (x2 38), .ref (x2 39), .int 0, .ref (x2 40)])), ((x2 36), .inl (cy 1, 30, .inl zF)), ((x2 37), .inl (cy 3, 30, .inl zF)), ((x2 38), .inl (cy 1, 30, .inl zF)), ((x2 39), .inl (cy 1, 30, .inl zF)), ((x2 40), .inl (cy 1, 21, .inl (fiF zF (-1) 21))), (q3, .inr (11, [.null, .int 0, .int 0, .int 0, .int 0, .int 0, .int 0, .int 0, .int 0, .long 0, .null, .null, .null, .null, .null, .null, .null, .int 0, .int 0, .int 0, .int 0, .int 0, .int 0, .int 0, .int 0, .int 0, .null, .null, .null, .null, .null, .null, .null, .null, .null, .null, .null, .null, .null, .null, .null, .int 0, .int 0, .int 0, .int 0, .int 0, .int 0, .int 0, .int 0, .int 0, .int 0, .int 0, .int 0, .int 0, .int 0, .int 0, .int 0, .int 0, .int 0, .null, .null, .null, .int 0, .int 0, .null, .null, .null, .int 0, .null, .null, .null, .null, .null, .int 0, .int 0, .null, .null, .null, .null]))] H := hP
  have hD : va_D (fun q : Nat => s.heap.size ≤ q) [(q1, .inr (10, [.ref (x2 0), .ref (x2 2), .ref (x2 26), .ref (x2 21), .ref (x2 20), .ref (x2 25), .ref (x2 29), .ref (x2 31), .ref (x2 35), .int 0])), ((x2 0), .inr (9, [.ref (x2 1), .int 0, .int 0, .int 0, .int 0, .int 0])), ((x2 1), .inl (cy 0, 1600, .inl zF)), ((x2 2), .inr (6, [.ref (x2 0), .ref (x2 3), .ref (x2 11), .ref (x2 12), .int 0, .int 0, .int (-1)])), ((x2 3), .inr (7, [.ref (x2 4), .ref (x2 5), .ref (x2 6), .int 0, .int 0, .int 10, .int 150, .int 2, .int 0, .int 0])), ((x2 4), .inl (cy 1, 18, .inl zF)), ((x2 5), .inl (cy 1, 24, .inl zF)), ((x2 6), .inr (4, [.ref (x2 7), .ref (x2 8), .ref (x2 9), .ref (x2 10), .int 0, .int 0])), ((x2 7), .inl (cy 1, 300, .inl zF)), ((x2 8), .inl (cy 1, 300, .inl zF)), ((x2 9), .inl (cy 1, 30, .inl zF)), ((x2 10), .inl (cy 1, 6, .inl zF)), ((x2 11), .inl (cy 1, 6, .inl zF)), ((x2 12), .inl (cy 1, 6, .inl zF)), ((x2 13), .inl (cy 1, 18, .inl zF)), ((x2 14), .inl (cy 1, 24, .inl zF)), ((x2 15), .inr (4, [.ref (x2 16), .ref (x2 17), .ref (x2 18), .ref (x2 19), .int 0, .int 0])), ((x2 16), .inl (cy 1, 300, .inl zF)), ((x2 17), .inl (cy 1, 300, .inl zF)), ((x2 18), .inl (cy 1, 30, .inl zF)), ((x2 19), .inl (cy 1, 6, .inl zF)), ((x2 20), .inr (5, [.ref (x2 21), .ref (x2 24), .ref (x2 23), .int 0, .int 0, .int 0, .int 0])), ((x2 21), .inr (1, [.ref (x2 26), .ref (x2 22)])), ((x2 22), .inl (cy 1, 44, .inl cF)), ((x2 23), .inl (cy 1, 132, .inl zF)), ((x2 24), .inl (cy 1, 1804, .inl (va_cpy cF zF 0 0 44))), ((x2 25), .inr (3, [.ref (x2 26), .ref (x2 21), .ref (x2 27), .int 0, .int 0, .int 0, .int 0, .int 0, .int 0, .int 0])), ((x2 26), .inr (7, [.ref (x2 13), .ref (x2 14), .ref (x2 15), .int 0, .int 0, .int 10, .int 150, .int 2, .int 0, .int 0])), ((x2 27), .inr (1, [.ref (x2 26), .ref (x2 28)])), ((x2 28), .inl (cy 1, 44, .inl cF)), ((x2 29), .inr (2, [.ref (x2 26), .ref (x2 21), .ref (x2 30)])), ((x2 30), .inl (cy 1, 64, .inl zF)), ((x2 31), .inr (0, [.ref (x2 26), .ref (x2 21), .ref (x2 32), .int 0, .ref (x2 33), .ref (x2 34), .int 0, .int 0])), ((x2 32), .inl (cy 1, 6, .inl zF)), ((x2 33), .inl (cy 1, 448, .inl zF)), ((x2 34), .inl (cy 1, 36, .inl zF)), ((x2 35), .inr (8, [.ref (x2 26), .ref (x2 36), .ref (x2 37), .ref (x2 38), .ref (x2 39), .int 0, .ref (x2 40)])), ((x2 36), .inl (cy 1, 30, .inl zF)), ((x2 37), .inl (cy 3, 30, .inl zF)), ((x2 38), .inl (cy 1, 30, .inl zF)), ((x2 39), .inl (cy 1, 30, .inl zF)), ((x2 40), .inl (cy 1, 21, .inl (fiF zF (-1) 21))), (q3, .inr (11, [.null, .int 0, .int 0, .int 0, .int 0, .int 0, .int 0, .int 0, .int 0, .long 0, .null, .null, .null, .null, .null, .null, .null, .int 0, .int 0, .int 0, .int 0, .int 0, .int 0, .int 0, .int 0, .int 0, .null, .null, .null, .null, .null, .null, .null, .null, .null, .null, .null, .null, .null, .null, .null, .int 0, .int 0, .int 0, .int 0, .int 0, .int 0, .int 0, .int 0, .int 0, .int 0, .int 0, .int 0, .int 0, .int 0, .int 0, .int 0, .int 0, .int 0, .null, .null, .null, .int 0, .int 0, .null, .null, .null, .int 0, .null, .null, .null, .null, .null, .int 0, .int 0, .null, .null, .null, .null]))] := hD
  refine W.widen (k := 43) (n := 5860) (Nat.le_of_ble_eq_true rfl) (Nat.le_of_ble_eq_true rfl) ?_
  refine lv_dup hx hb dL_law_11 rfl ?_
  refine caI (n := 0) (wr := [(q1, .inr (10, [.ref (x2 0), .ref (x2 2), .ref (x2 26), .ref (x2 21), .ref (x2 20), .ref (x2 25), .ref (x2 29), .ref (x2 31), .ref (x2 35), .int 0])), ((x2 0), .inr (9, [.ref (x2 1), .int 0, .int 0, .int 0, .int 0, .int 0])), ((x2 1), .inl (cy 0, 1600, .inl zF)), ((x2 2), .inr (6, [.ref (x2 0), .ref (x2 3), .ref (x2 11), .ref (x2 12), .int 0, .int 0, .int (-1)])), ((x2 3), .inr (7, [.ref (x2 4), .ref (x2 5), .ref (x2 6), .int 0, .int 0, .int 10, .int 150, .int 2, .int 0, .int 0])), ((x2 4), .inl (cy 1, 18, .inl zF)), ((x2 5), .inl (cy 1, 24, .inl zF)), ((x2 6), .inr (4, [.ref (x2 7), .ref (x2 8), .ref (x2 9), .ref (x2 10), .int 0, .int 0])), ((x2 7), .inl (cy 1, 300, .inl zF)), ((x2 8), .inl (cy 1, 300, .inl zF)), ((x2 9), .inl (cy 1, 30, .inl zF)), ((x2 10), .inl (cy 1, 6, .inl zF)), ((x2 11), .inl (cy 1, 6, .inl zF)), ((x2 12), .inl (cy 1, 6, .inl zF)), ((x2 13), .inl (cy 1, 18, .inl zF)), ((x2 14), .inl (cy 1, 24, .inl zF)), ((x2 15), .inr (4, [.ref (x2 16), .ref (x2 17), .ref (x2 18), .ref (x2 19), .int 0, .int 0])), ((x2 16), .inl (cy 1, 300, .inl zF)), ((x2 17), .inl (cy 1, 300, .inl zF)), ((x2 18), .inl (cy 1, 30, .inl zF)), ((x2 19), .inl (cy 1, 6, .inl zF)), ((x2 20), .inr (5, [.ref (x2 21), .ref (x2 24), .ref (x2 23), .int 0, .int 0, .int 0, .int 0])), ((x2 21), .inr (1, [.ref (x2 26), .ref (x2 22)])), ((x2 22), .inl (cy 1, 44, .inl cF)), ((x2 23), .inl (cy 1, 132, .inl zF)), ((x2 24), .inl (cy 1, 1804, .inl (va_cpy cF zF 0 0 44))), ((x2 25), .inr (3, [.ref (x2 26), .ref (x2 21), .ref (x2 27), .int 0, .int 0, .int 0, .int 0, .int 0, .int 0, .int 0])), ((x2 26), .inr (7, [.ref (x2 13), .ref (x2 14), .ref (x2 15), .int 0, .int 0, .int 10, .int 150, .int 2, .int 0, .int 0])), ((x2 27), .inr (1, [.ref (x2 26), .ref (x2 28)])), ((x2 28), .inl (cy 1, 44, .inl cF)), ((x2 29), .inr (2, [.ref (x2 26), .ref (x2 21), .ref (x2 30)])), ((x2 30), .inl (cy 1, 64, .inl zF)), ((x2 31), .inr (0, [.ref (x2 26), .ref (x2 21), .ref (x2 32), .int 0, .ref (x2 33), .ref (x2 34), .int 0, .int 0])), ((x2 32), .inl (cy 1, 6, .inl zF)), ((x2 33), .inl (cy 1, 448, .inl zF)), ((x2 34), .inl (cy 1, 36, .inl zF)), ((x2 35), .inr (8, [.ref (x2 26), .ref (x2 36), .ref (x2 37), .ref (x2 38), .ref (x2 39), .int 0, .ref (x2 40)])), ((x2 36), .inl (cy 1, 30, .inl zF)), ((x2 37), .inl (cy 3, 30, .inl zF)), ((x2 38), .inl (cy 1, 30, .inl zF)), ((x2 39), .inl (cy 1, 30, .inl zF)), ((x2 40), .inl (cy 1, 21, .inl (fiF zF (-1) 21)))]) (rest := [.ref q3]) hx hb hml hown hts hE hP hD hS hA (cnX11_init_1 l dC dI cy q3) k_1316 k_1317 k_114 k_1318 rfl (by decide +kernel) ⟨Nat.le_of_ble_eq_true rfl, Nat.le_of_ble_eq_true rfl⟩ [42] [0, 1, 2, 3, 4, 5, 6, 7, 8, 9, 10, 11, 12, 13, 14, 15, 16, 17, 18, 19, 20, 21, 22, 23, 24, 25, 26, 27, 28, 29, 30, 31, 32, 33, 34, 35, 36, 37, 38, 39, 40, 41] rfl rfl rfl (by decide) (by decide) (by decide) rfl hl.1 rfl (Nat.le_of_ble_eq_true rfl) dL_law_12 ⟨Nat.le_of_ble_eq_true rfl, Nat.le_of_ble_eq_true rfl⟩ (fun u H locs hw hP hD hS => ?_)
  obtain ⟨r4, er4⟩ : ∃ z, z = u := ⟨_, rfl⟩
  rw [← er4] at hP hD
  have hP : va_P (dC, dI) vwCl [(q1, .inr (10, [.ref (x2 0), .ref (x2 2), .ref (x2 26), .ref (x2 21), .ref (x2 20), .ref (x2 25), .ref (x2 29), .ref (x2 31), .ref (x2 35), .int 0])), ((x2 0), .inr (9, [.ref (x2 1), .int 0, .int 0, .int 0, .int 0, .int 0])), ((x2 1), .inl (cy 0, 1600, .inl zF)), ((x2 2), .inr (6, [.ref (x2 0), .ref (x2 3), .ref (x2 11), .ref (x2 12), .int 0, .int 0, .int (-1)])), ((x2 3), .inr (7, [.ref (x2 4), .ref (x2 5), .ref (x2 6), .int 0, .int 0, .int 10, .int 150, .int 2, .int 0, .int 0])), ((x2 4), .inl (cy 1, 18, .inl zF)), ((x2 5), .inl (cy 1, 24, .inl zF)), ((x2 6), .inr (4, [.ref (x2 7), .ref (x2 8), .ref (x2 9), .ref (x2 10), .int 0, .int 0])), ((x2 7), .inl (cy 1, 300, .inl zF)), ((x2 8), .inl (cy 1, 300, .inl zF)), ((x2 9), .inl (cy 1, 30, .inl zF)), ((x2 10), .inl (cy 1, 6, .inl zF)), ((x2 11), .inl (cy 1, 6, .inl zF)), ((x2 12), .inl (cy 1, 6, .inl zF)), ((x2 13), .inl (cy 1, 18, .inl zF)), ((x2 14), .inl (cy 1, 24, .inl zF)), ((x2 15), .inr (4, [.ref (x2 16), .ref (x2 17), .ref (x2 18), .ref (x2 19), .int 0, .int 0])), ((x2 16), .inl (cy 1, 300, .inl zF)), ((x2 17), .inl (cy 1, 300, .inl zF)), ((x2 18), .inl (cy 1, 30, .inl zF)), ((x2 19), .inl (cy 1, 6, .inl zF)), ((x2 20), .inr (5, [.ref (x2 21), .ref (x2 24), .ref (x2 23), .int 0, .int 0, .int 0, .int 0])), ((x2 21), .inr (1, [.ref (x2 26), .ref (x2 22)])), ((x2 22), .inl (cy 1, 44, .inl cF)), ((x2 23), .inl (cy 1, 132, .inl zF)), ((x2 24), .inl (cy 1, 1804, .inl (va_cpy cF zF 0 0 44))), ((x2 25), .inr (3, [.ref (x2 26), .ref (x2 21), .ref (x2 27), .int 0, .int 0, .int 0, .int 0, .int 0, .int 0, .int 0])), ((x2 26), .inr (7, [.ref (x2 13), .ref (x2 14), .ref (x2 15), .int 0, .int 0, .int 10, .int 150, .int 2, .int 0, .int 0])), ((x2 27), .inr (1, [.ref (x2 26), .ref (x2 28)])), ((x2 28), .inl (cy 1, 44, .inl cF)), ((x2 29), .inr (2, [.ref (x2 26), .ref (x2 21), .ref (x2 30)])), ((x2 30), .inl (cy 1, 64, .inl zF)), ((x2 31), .inr (0, [.ref (x2 26), .ref (x2 21), .ref (x2 32), .int 0, .ref (x2 33), .ref (x2 34), .int 0, .int 0])), ((x2 32), .inl (cy 1, 6, .inl zF)), ((x2 33), .inl (cy 1, 448, .inl zF)), ((x2 34), .inl (cy 1, 36, .inl zF)), ((x2 35), .inr (8, [.ref (x2 26), .ref (x2 36), .ref (x2 37), .ref (x2 38), .ref (x2 39), .int 0, .ref (x2 40)])), ((x2 36), .inl (cy 1, 30, .inl zF)), ((x2 37), .inl (cy 3, 30, .inl zF)), ((x2 38), .inl (cy 1, 30, .inl zF)), ((x2 39), .inl (cy 1, 30, .inl zF)), ((x2 40), .inl (cy 1, 21, .inl (fiF zF (-1) 21))), (q3, .inr (11, [.ref (r4 0), .int 0, .int 0, .int (-1), .int 0, .int 0, .int 0, .int 0, .int 0, .long 0, .ref (r4 10), .ref (r4 11), .ref (r4 12), .ref (r4 13), .ref (r4 14), .ref (r4 15), .ref (r4 16), .int 0, .int 0, .int 0, .int 0, .int 0, .int 0, .int 0, .int 0, .int 0, .ref (r4 26), .ref (r4 27), .ref (r4 28), .ref (r4 29), .ref (r4 30), .ref (r4 31), .ref (r4 32), .ref (r4 33), .ref (r4 34), .ref (r4 35), .ref (r4 36), .ref (r4 37), .ref (r4 38), .ref (r4 39), .ref (r4 40), .int 0, .int 0, .int 0, .int 0, .int 0, .int 0, .int 0, .int 0, .int 0, .int 10, .int 150, .int 2, .int 0, .int 0, .int 0, .int 0, .int 0, .int 0, .ref (r4 59), .ref (r4 60), .ref (r4 61), .int 0, .int 0, .ref (r4 64), .ref (r4 65), .ref (r4 66), .int 0, .ref (r4 68), .ref (r4 69), .ref (r4 70), .ref (r4 71), .ref (r4 72), .int 0, .int 0, .ref (r4 75), .ref (r4 76), .ref (r4 77), .ref (r4 78)])), ((r4 0), .inl (cy 1, 1600, .inl zF)), ((r4 10), .inl (cy 2, 12, .inr (.inl zL))), ((r4 11), .inl (cy 1, 320, .inl zF)), ((r4 12), .inl (cy 1, 320, .inl zF)), ((r4 13), .inl (cy 1, 320, .inl zF)), ((r4 14), .inl (cy 1, 320, .inl zF)), ((r4 15), .inl (cy 1, 160, .inl zF)), ((r4 16), .inl (cy 1, 64, .inl zF)), ((r4 26), .inl (cy 1, 6, .inl zF)), ((r4 27), .inl (cy 1, 6, .inl zF)), ((r4 28), .inl (cy 1, 6, .inl zF)), ((r4 29), .inl (cy 1, 6, .inl zF)), ((r4 30), .inl (cy 1, 6, .inl zF)), ((r4 31), .inl (cy 1, 6, .inl zF)), ((r4 32), .inl (cy 1, 6, .inl zF)), ((r4 33), .inl (cy 1, 6, .inl zF)), ((r4 34), .inl (cy 1, 6, .inl zF)), ((r4 35), .inl (cy 1, 6, .inl zF)), ((r4 36), .inl (cy 1, 6, .inl zF)), ((r4 37), .inl (cy 1, 6, .inl zF)), ((r4 38), .inl (cy 1, 6, .inl zF)), ((r4 39), .inl (cy 1, 6, .inl zF)), ((r4 40), .inl (cy 1, 6, .inl zF)), ((r4 59), .inl (cy 1, 39, .inl zF)), ((r4 60), .inl (cy 1, 39, .inl zF)), ((r4 61), .inl (cy 1, 1560, .inl zF)), ((r4 64), .inl (cy 1, 6, .inl zF)), ((r4 65), .inl (cy 1, 6, .inl zF)), ((r4 66), .inl (cy 1, 36, .inl zF)), ((r4 68), .inl (cy 1, 64, .inl zF)), ((r4 69), .inl (cy 1, 30, .inl zF)), ((r4 70), .inl (cy 1, 30, .inl zF)), ((r4 71), .inl (cy 1, 30, .inl zF)), ((r4 72), .inl (cy 3, 30, .inl zF)), ((r4 75), .inl (cy 3, 651, .inl zF)), ((r4 76), .inl (cy 3, 31, .inl zF)), ((r4 77), .inl (cy 3, 3, .inl zF)), ((r4 78), .inl (cy 1, 117, .inl zF))] H := hP
  have hD : va_D (fun q : Nat => s.heap.size ≤ q) [(q1, .inr (10, [.ref (x2 0), .ref (x2 2), .ref (x2 26), .ref (x2 21), .ref (x2 20), .ref (x2 25), .ref (x2 29), .ref (x2 31), .ref (x2 35), .int 0])), ((x2 0), .inr (9, [.ref (x2 1), .int 0, .int 0, .int 0, .int 0, .int 0])), ((x2 1), .inl (cy 0, 1600, .inl zF)), ((x2 2), .inr (6, [.ref (x2 0), .ref (x2 3), .ref (x2 11), .ref (x2 12), .int 0, .int 0, .int (-1)])), ((x2 3), .inr (7, [.ref (x2 4), .ref (x2 5), .ref (x2 6), .int 0, .int 0, .int 10, .int 150, .int 2, .int 0, .int 0])), ((x2 4), .inl (cy 1, 18, .inl zF)), ((x2 5), .inl (cy 1, 24, .inl zF)), ((x2 6), .inr (4, [.ref (x2 7), .ref (x2 8), .ref (x2 9), .ref (x2 10), .int 0, .int 0])), ((x2 7), .inl (cy 1, 300, .inl zF)), ((x2 8), .inl (cy 1, 300, .inl zF)), ((x2 9), .inl (cy 1, 30, .inl zF)), ((x2 10), .inl (cy 1, 6, .inl zF)), ((x2 11), .inl (cy 1, 6, .inl zF)), ((x2 12), .inl (cy 1, 6, .inl zF)), ((x2 13), .inl (cy 1, 18, .inl zF)), ((x2 14), .inl (cy 1, 24, .inl zF)), ((x2 15), .inr (4, [.ref (x2 16), .ref (x2 17), .ref (x2 18), .ref (x2 19), .int 0, .int 0])), ((x2 16), .inl (cy 1, 300, .inl zF)), ((x2 17), .inl (cy 1, 300, .inl zF)), ((x2 18), .inl (cy 1, 30, .inl zF)), ((x2 19), .inl (cy 1, 6, .inl zF)), ((x2 20), .inr (5, [.ref (x2 21), .ref (x2 24), .ref (x2 23), .int 0, .int 0, .int 0, .int 0])), ((x2 21), .inr (1, [.ref (x2 26), .ref (x2 22)])), ((x2 22), .inl (cy 1, 44, .inl cF)), ((x2 23), .inl (cy 1, 132, .inl zF)), ((x2 24), .inl (cy 1, 1804, .inl (va_cpy cF zF 0 0 44))), ((x2 25), .inr (3, [.ref (x2 26), .ref (x2 21), .ref (x2 27), .int 0, .int 0, .int 0, .int 0, .int 0, .int 0, .int 0])), ((x2 26), .inr (7, [.ref (x2 13), .ref (x2 14), .ref (x2 15), .int 0, .int 0, .int 10, .int 150, .int 2, .int 0, .int 0])), ((x2 27), .inr (1, [.ref (x2 26), .ref (x2 28)])), ((x2 28), .inl (cy 1, 44, .inl cF)), ((x2 29), .inr (2, [.ref (x2 26), .ref (x2 21), .ref (x2 30)])), ((x2 30), .inl (cy 1, 64, .inl zF)), ((x2 31), .inr (0, [.ref (x2 26), .ref (x2 21), .ref (x2 32), .int 0, .ref (x2 33), .ref (x2 34), .int 0, .int 0])), ((x2 32), .inl (cy 1, 6, .inl zF)), ((x2 33), .inl (cy 1, 448, .inl zF)), ((x2 34), .inl (cy 1, 36, .inl zF)), ((x2 35), .inr (8, [.ref (x2 26), .ref (x2 36), .ref (x2 37), .ref (x2 38), .ref (x2 39), .int 0, .ref (x2 40)])), ((x2 36), .inl (cy 1, 30, .inl zF)), ((x2 37), .inl (cy 3, 30, .inl zF)), ((x2 38), .inl (cy 1, 30, .inl zF)), ((x2 39), .inl (cy 1, 30, .inl zF)), ((x2 40), .inl (cy 1, 21, .inl (fiF zF (-1) 21))), (q3, .inr (11, [.ref (r4 0), .int 0, .int 0, .int (-1), .int 0, .int 0, .int 0, .int 0, .int 0, .long 0, .ref (r4 10), .ref (r4 11), .ref (r4 12), .ref (r4 13), .ref (r4 14), .ref (r4 15), .ref (r4 16), .int 0, .int 0, .int 0, .int 0, .int 0, .int 0, .int 0, .int 0, .int 0, .ref (r4 26), .ref (r4 27), .ref (r4 28), .ref (r4 29), .ref (r4 30), .ref (r4 31), .ref (r4 32), .ref (r4 33), .ref (r4 34), .ref (r4 35), .ref (r4 36), .ref (r4 37), .ref (r4 38), .ref (r4 39), .ref (r4 40), .int 0, .int 0, .int 0, .int 0, .int 0, .int 0, .int 0, .int 0, .int 0, .int 10, .int 150, .int 2, .int 0, .int 0, .int 0, .int 0, .int 0, .int 0, .ref (r4 59), .ref (r4 60), .ref (r4 61), .int 0, .int 0, .ref (r4 64), .ref (r4 65), .ref (r4 66), .int 0, .ref (r4 68), .ref (r4 69), .ref (r4 70), .ref (r4 71), .ref (r4 72), .int 0, .int 0, .ref (r4 75), .ref (r4 76), .ref (r4 77), .ref (r4 78)])), ((r4 0), .inl (cy 1, 1600, .inl zF)), ((r4 10), .inl (cy 2, 12, .inr (.inl zL))), ((r4 11), .inl (cy 1, 320, .inl zF)), ((r4 12), .inl (cy 1, 320, .inl zF)), ((r4 13), .inl (cy 1, 320, .inl zF)), ((r4 14), .inl (cy 1, 320, .inl zF)), ((r4 15), .inl (cy 1, 160, .inl zF)), ((r4 16), .inl (cy 1, 64, .inl zF)), ((r4 26), .inl (cy 1, 6, .inl zF)), ((r4 27), .inl (cy 1, 6, .inl zF)), ((r4 28), .inl (cy 1, 6, .inl zF)), ((r4 29), .inl (cy 1, 6, .inl zF)), ((r4 30), .inl (cy 1, 6, .inl zF)), ((r4 31), .inl (cy 1, 6, .inl zF)), ((r4 32), .inl (cy 1, 6, .inl zF)), ((r4 33), .inl (cy 1, 6, .inl zF)), ((r4 34), .inl (cy 1, 6, .inl zF)), ((r4 35), .inl (cy 1, 6, .inl zF)), ((r4 36), .inl (cy 1, 6, .inl zF)), ((r4 37), .inl (cy 1, 6, .inl zF)), ((r4 38), .inl (cy 1, 6, .inl zF)), ((r4 39), .inl (cy 1, 6, .inl zF)), ((r4 40), .inl (cy 1, 6, .inl zF)), ((r4 59), .inl (cy 1, 39, .inl zF)), ((r4 60), .inl (cy 1, 39, .inl zF)), ((r4 61), .inl (cy 1, 1560, .inl zF)), ((r4 64), .inl (cy 1, 6, .inl zF)), ((r4 65), .inl (cy 1, 6, .inl zF)), ((r4 66), .inl (cy 1, 36, .inl zF)), ((r4 68), .inl (cy 1, 64, .inl zF)), ((r4 69), .inl (cy 1, 30, .inl zF)), ((r4 70), .inl (cy 1, 30, .inl zF)), ((r4 71), .inl (cy 1, 30, .inl zF)), ((r4 72), .inl (cy 3, 30, .inl zF)), ((r4 75), .inl (cy 3, 651, .inl zF)), ((r4 76), .inl (cy 3, 31, .inl zF)), ((r4 77), .inl (cy 3, 3, .inl zF)), ((r4 78), .inl (cy 1, 117, .inl zF))] := hD
  refine W.widen (k := 81) (n := 11738) (Nat.le_of_ble_eq_true rfl) (Nat.le_of_ble_eq_true rfl) ?_
  refine lv_astore_n (lv' := [(2, .ref q3), (1, .ref q1), (0, .ref b)]) hx hb dL_law_15 rfl hl (by decide) rfl (fun ls hl => ?_)
  refine lv_iconst (v := 0) hx hb dL_law_16 (by decide) ?_
  refine lv_istore_n (lv' := [(3, .int 0), (2, .ref q3), (1, .ref q1), (0, .ref b)]) hx hb dL_law_17 rfl hl (by decide) rfl (fun ls hl => ?_)
  have hP := hP.sub (ws' := LW cy q1 q3 x2 r4) [0, 1, 2, 3, 4, 5, 6, 7, 8, 9, 10, 11, 12, 13, 14, 15, 16, 17, 18, 19, 20, 21, 22, 23, 24, 25, 26, 27, 28, 29, 30, 31, 32, 33, 34, 35, 36, 37, 38, 39, 40, 41, 42, 43, 44, 45, 46, 47, 48, 49, 50, 51, 52, 53, 54, 55, 56, 57, 58, 59, 60, 61, 62, 63, 64, 65, 66, 67, 68, 69, 70, 71, 72, 73, 74, 75, 76, 77, 78, 79, 80] rfl
  have hD := hD.sub (ws' := LW cy q1 q3 x2 r4) [0, 1, 2, 3, 4, 5, 6, 7, 8, 9, 10, 11, 12, 13, 14, 15, 16, 17, 18, 19, 20, 21, 22, 23, 24, 25, 26, 27, 28, 29, 30, 31, 32, 33, 34, 35, 36, 37, 38, 39, 40, 41, 42, 43, 44, 45, 46, 47, 48, 49, 50, 51, 52, 53, 54, 55, 56, 57, 58, 59, 60, 61, 62, 63, 64, 65, 66, 67, 68, 69, 70, 71, 72, 73, 74, 75, 76, 77, 78, 79, 80] (by decide) rfl
  have out : ∀ (H : Heap) (locs : List Loc) (ls : Array Slot), va_S (fun q : Nat => s.heap.size ≤ q) s.heap H locs → W p l e room_1 s m #[Value.ref b] below meth c H locs 81 11738 (lw_Z below #[Value.ref b] s) (F0 m 1419 ls []) := by
    intro H locs ls hS
    refine lv_iconst (v := 1) hx hb dL_law_1419 (by decide) ?_
    refine va_forget (fun q hq => hS.2.2 q hq) ?_
    refine W.widen (k := 600000) (n := 7302250) (Nat.le_of_ble_eq_true rfl) (Nat.le_of_ble_eq_true rfl) ?_
    exact lw_ret hx hb hr hlocks dL_law_1420
  refine lv_iload_n hx hb dL_law_18 rfl (lv_at hl 0 rfl) ?_
  refine lv_aload_n hx hb dL_law_19 rfl (lv_at hl 3 rfl) ?_
  refine va_slen hx hb hX hbl hbA hS dL_law_20 ?_
  refine lv_bipush (v := 6) hx hb dL_law_21 (by decide) ?_
  refine lv_isub hx hb dL_law_23 ?_
  by_cases hL6 : L = 6
  · subst hL6
    refine tI (y := 0) (by decide) ?_
    refine lv_icmp_gt (tgt := 1419) hx hb dL_law_24 (by decide) (fun c0 => absurd c0 (by decide)) (fun _ => ?_)
    refine lv_aload_n hx hb dL_law_27 rfl (lv_at hl 3 rfl) ?_
    refine lv_iload_n hx hb dL_law_28 rfl (lv_at hl 0 rfl) ?_
    refine va_sld hx hb hX hbl hbA hS (vp_in_nI (n := 0) (by decide) (by decide)) dL_law_29 ?_
    refine lv_bipush (v := 63) hx hb dL_law_30 (by decide) ?_
    refine lv_iand hx hb dL_law_32 ?_
    obtain ⟨j, hj, ej⟩ := pk_andE (xs (0 : Int32).toNatClampNeg) (m := 63) 6 rfl
    refine tI ej ?_
    have fin : ∀ (H : Heap) (locs : List Loc) (ls : Array Slot), va_S (fun q : Nat => s.heap.size ≤ q) s.heap H locs → lv_has ls 4 [(3, .int 0), (2, .ref q3), (1, .ref q1), (0, .ref b)] → W p l e room_1 s m #[Value.ref b] below meth c H locs 81 11738 (lw_Z below #[Value.ref b] s) (F0 m 1413 ls []) := fun H locs ls hS hl => law_head hx hb hml hown hts hE hX hbl hS hl out
    rcases Nat.eq_or_lt_of_le (show 0 ≤ j from by omega) with e0 | e0
    · subst e0
      refine lv_tableIn (off := 203) (tgt := 236) hx hb dL_law_33 (by decide) (by decide) (by decide) (by decide) ?_
      exact law_0 hx hb hml hown hts hE hX hbl hP hD hS hl fin
    rcases Nat.eq_or_lt_of_le (show 1 ≤ j from by omega) with e1 | e1
    · subst e1
      refine lv_tableIn (off := 266) (tgt := 299) hx hb dL_law_33 (by decide) (by decide) (by decide) (by decide) ?_
      exact law_1 hx hb hml hown hts hE hX hbl hP hD hS hl fin
    rcases Nat.eq_or_lt_of_le (show 2 ≤ j from by omega) with e2 | e2
    · subst e2
      refine lv_tableIn (off := 289) (tgt := 322) hx hb dL_law_33 (by decide) (by decide) (by decide) (by decide) ?_
      exact law_2 hx hb hml hown hts hE hX hbl hP hD hS hl fin
    rcases Nat.eq_or_lt_of_le (show 3 ≤ j from by omega) with e3 | e3
    · subst e3
      refine lv_tableIn (off := 302) (tgt := 335) hx hb dL_law_33 (by decide) (by decide) (by decide) (by decide) ?_
      exact law_3 hx hb hml hown hts hE hX hbl hP hD hS hl fin
    rcases Nat.eq_or_lt_of_le (show 4 ≤ j from by omega) with e4 | e4
    · subst e4
      refine lv_tableIn (off := 325) (tgt := 358) hx hb dL_law_33 (by decide) (by decide) (by decide) (by decide) ?_
      exact law_4 hx hb hml hown hts hE hX hbl hP hD hS hl fin
    rcases Nat.eq_or_lt_of_le (show 5 ≤ j from by omega) with e5 | e5
    · subst e5
      refine lv_tableIn (off := 358) (tgt := 391) hx hb dL_law_33 (by decide) (by decide) (by decide) (by decide) ?_
      exact law_5 hx hb hml hown hts hE hX hbl hP hD hS hl fin
    rcases Nat.eq_or_lt_of_le (show 6 ≤ j from by omega) with e6 | e6
    · subst e6
      refine lv_tableIn (off := 391) (tgt := 424) hx hb dL_law_33 (by decide) (by decide) (by decide) (by decide) ?_
      exact law_6 hx hb hml hown hts hE hX hbl hP hD hS hl fin
    rcases Nat.eq_or_lt_of_le (show 7 ≤ j from by omega) with e7 | e7
    · subst e7
      refine lv_tableIn (off := 424) (tgt := 457) hx hb dL_law_33 (by decide) (by decide) (by decide) (by decide) ?_
      exact law_7 hx hb hml hown hts hE hX hbl hP hD hS hl fin
    rcases Nat.eq_or_lt_of_le (show 8 ≤ j from by omega) with e8 | e8
    · subst e8
      refine lv_tableIn (off := 437) (tgt := 470) hx hb dL_law_33 (by decide) (by decide) (by decide) (by decide) ?_
      exact law_8 hx hb hml hown hts hE hX hbl hP hD hS hl fin
    rcases Nat.eq_or_lt_of_le (show 9 ≤ j from by omega) with e9 | e9
    · subst e9
      refine lv_tableIn (off := 470) (tgt := 503) hx hb dL_law_33 (by decide) (by decide) (by decide) (by decide) ?_
      exact law_9 hx hb hml hown hts hE hX hbl hP hD hS hl fin
    rcases Nat.eq_or_lt_of_le (show 10 ≤ j from by omega) with e10 | e10
    · subst e10
      refine lv_tableIn (off := 493) (tgt := 526) hx hb dL_law_33 (by decide) (by decide) (by decide) (by decide) ?_
      exact law_10 hx hb hml hown hts hE hX hbl hP hD hS hl fin
    rcases Nat.eq_or_lt_of_le (show 11 ≤ j from by omega) with e11 | e11
    · subst e11
      refine lv_tableIn (off := 526) (tgt := 559) hx hb dL_law_33 (by decide) (by decide) (by decide) (by decide) ?_
      exact law_11 hx hb hml hown hts hE hX hbl hP hD hS hl fin
    rcases Nat.eq_or_lt_of_le (show 12 ≤ j from by omega) with e12 | e12
    · subst e12
      refine lv_tableIn (off := 559) (tgt := 592) hx hb dL_law_33 (by decide) (by decide) (by decide) (by decide) ?_
      exact law_12 hx hb hml hown hts hE hX hbl hP hD hS hl fin
    rcases Nat.eq_or_lt_of_le (show 13 ≤ j from by omega) with e13 | e13
    · subst e13
      refine lv_tableIn (off := 592) (tgt := 625) hx hb dL_law_33 (by decide) (by decide) (by decide) (by decide) ?_
      exact law_13 hx hb hml hown hts hE hX hbl hP hD hS hl fin
    rcases Nat.eq_or_lt_of_le (show 14 ≤ j from by omega) with e14 | e14
    · subst e14
      refine lv_tableIn (off := 615) (tgt := 648) hx hb dL_law_33 (by decide) (by decide) (by decide) (by decide) ?_
      exact law_14 hx hb hml hown hts hE hX hbl hP hD hS hl fin
    rcases Nat.eq_or_lt_of_le (show 15 ≤ j from by omega) with e15 | e15
    · subst e15
      refine lv_tableIn (off := 628) (tgt := 661) hx hb dL_law_33 (by decide) (by decide) (by decide) (by decide) ?_
      exact law_15 hx hb hml hown hts hE hX hbl hP hD hS hl fin
    rcases Nat.eq_or_lt_of_le (show 16 ≤ j from by omega) with e16 | e16
    · subst e16
      refine lv_tableIn (off := 641) (tgt := 674) hx hb dL_law_33 (by decide) (by decide) (by decide) (by decide) ?_
      exact law_16 hx hb hml hown hts hE hX hbl hP hD hS hl fin
    rcases Nat.eq_or_lt_of_le (show 17 ≤ j from by omega) with e17 | e17
    · subst e17
      refine lv_tableIn (off := 684) (tgt := 717) hx hb dL_law_33 (by decide) (by decide) (by decide) (by decide) ?_
      exact law_17 hx hb hml hown hts hE hX hbl hP hD hS hl fin
    rcases Nat.eq_or_lt_of_le (show 18 ≤ j from by omega) with e18 | e18
    · subst e18
      refine lv_tableIn (off := 707) (tgt := 740) hx hb dL_law_33 (by decide) (by decide) (by decide) (by decide) ?_
      exact law_18 hx hb hml hown hts hE hX hbl hP hD hS hl fin
    rcases Nat.eq_or_lt_of_le (show 19 ≤ j from by omega) with e19 | e19
    · subst e19
      refine lv_tableIn (off := 720) (tgt := 753) hx hb dL_law_33 (by decide) (by decide) (by decide) (by decide) ?_
      exact law_19 hx hb hml hown hts hE hX hbl hP hD hS hl fin
    rcases Nat.eq_or_lt_of_le (show 20 ≤ j from by omega) with e20 | e20
    · subst e20
      refine lv_tableIn (off := 743) (tgt := 776) hx hb dL_law_33 (by decide) (by decide) (by decide) (by decide) ?_
      exact law_20 hx hb hml hown hts hE hX hbl hP hD hS hl fin
    rcases Nat.eq_or_lt_of_le (show 21 ≤ j from by omega) with e21 | e21
    · subst e21
      refine lv_tableIn (off := 786) (tgt := 819) hx hb dL_law_33 (by decide) (by decide) (by decide) (by decide) ?_
      exact law_21 hx hb hml hown hts hE hX hbl hP hD hS hl fin
    rcases Nat.eq_or_lt_of_le (show 22 ≤ j from by omega) with e22 | e22
    · subst e22
      refine lv_tableIn (off := 809) (tgt := 842) hx hb dL_law_33 (by decide) (by decide) (by decide) (by decide) ?_
      exact law_22 hx hb hml hown hts hE hX hbl hP hD hS hl fin
    rcases Nat.eq_or_lt_of_le (show 23 ≤ j from by omega) with e23 | e23
    · subst e23
      refine lv_tableIn (off := 832) (tgt := 865) hx hb dL_law_33 (by decide) (by decide) (by decide) (by decide) ?_
      exact law_23 hx hb hml hown hts hE hX hbl hP hD hS hl fin
    rcases Nat.eq_or_lt_of_le (show 24 ≤ j from by omega) with e24 | e24
    · subst e24
      refine lv_tableIn (off := 865) (tgt := 898) hx hb dL_law_33 (by decide) (by decide) (by decide) (by decide) ?_
      exact law_24 hx hb hml hown hts hE hX hbl hP hD hS hl fin
    rcases Nat.eq_or_lt_of_le (show 25 ≤ j from by omega) with e25 | e25
    · subst e25
      refine lv_tableIn (off := 888) (tgt := 921) hx hb dL_law_33 (by decide) (by decide) (by decide) (by decide) ?_
      exact law_25 hx hb hml hown hts hE hX hbl hP hD hS hl fin
    rcases Nat.eq_or_lt_of_le (show 26 ≤ j from by omega) with e26 | e26
    · subst e26
      refine lv_tableIn (off := 901) (tgt := 934) hx hb dL_law_33 (by decide) (by decide) (by decide) (by decide) ?_
      exact law_26 hx hb hml hown hts hE hX hbl hP hD hS hl fin
    rcases Nat.eq_or_lt_of_le (show 27 ≤ j from by omega) with e27 | e27
    · subst e27
      refine lv_tableIn (off := 914) (tgt := 947) hx hb dL_law_33 (by decide) (by decide) (by decide) (by decide) ?_
      exact law_27 hx hb hml hown hts hE hX hbl hP hD hS hl fin
    rcases Nat.eq_or_lt_of_le (show 28 ≤ j from by omega) with e28 | e28
    · subst e28
      refine lv_tableIn (off := 947) (tgt := 980) hx hb dL_law_33 (by decide) (by decide) (by decide) (by decide) ?_
      exact law_28 hx hb hml hown hts hE hX hbl hP hD hS hl fin
    rcases Nat.eq_or_lt_of_le (show 29 ≤ j from by omega) with e29 | e29
    · subst e29
      refine lv_tableIn (off := 960) (tgt := 993) hx hb dL_law_33 (by decide) (by decide) (by decide) (by decide) ?_
      exact law_29 hx hb hml hown hts hE hX hbl hP hD hS hl fin
    rcases Nat.eq_or_lt_of_le (show 30 ≤ j from by omega) with e30 | e30
    · subst e30
      refine lv_tableIn (off := 973) (tgt := 1006) hx hb dL_law_33 (by decide) (by decide) (by decide) (by decide) ?_
      exact law_30 hx hb hml hown hts hE hX hbl hP hD hS hl fin
    rcases Nat.eq_or_lt_of_le (show 31 ≤ j from by omega) with e31 | e31
    · subst e31
      refine lv_tableIn (off := 986) (tgt := 1019) hx hb dL_law_33 (by decide) (by decide) (by decide) (by decide) ?_
      exact law_31 hx hb hml hown hts hE hX hbl hP hD hS hl fin
    rcases Nat.eq_or_lt_of_le (show 32 ≤ j from by omega) with e32 | e32
    · subst e32
      refine lv_tableIn (off := 1009) (tgt := 1042) hx hb dL_law_33 (by decide) (by decide) (by decide) (by decide) ?_
      exact law_32 hx hb hml hown hts hE hX hbl hP hD hS hl fin
    rcases Nat.eq_or_lt_of_le (show 33 ≤ j from by omega) with e33 | e33
    · subst e33
      refine lv_tableIn (off := 1032) (tgt := 1065) hx hb dL_law_33 (by decide) (by decide) (by decide) (by decide) ?_
      exact law_33 hx hb hml hown hts hE hX hbl hP hD hS hl fin
    rcases Nat.eq_or_lt_of_le (show 34 ≤ j from by omega) with e34 | e34
    · subst e34
      refine lv_tableIn (off := 1045) (tgt := 1078) hx hb dL_law_33 (by decide) (by decide) (by decide) (by decide) ?_
      exact law_34 hx hb hml hown hts hE hX hbl hP hD hS hl fin
    rcases Nat.eq_or_lt_of_le (show 35 ≤ j from by omega) with e35 | e35
    · subst e35
      refine lv_tableIn (off := 1058) (tgt := 1091) hx hb dL_law_33 (by decide) (by decide) (by decide) (by decide) ?_
      exact law_35 hx hb hml hown hts hE hX hbl hP hD hS hl fin
    rcases Nat.eq_or_lt_of_le (show 36 ≤ j from by omega) with e36 | e36
    · subst e36
      refine lv_tableIn (off := 1071) (tgt := 1104) hx hb dL_law_33 (by decide) (by decide) (by decide) (by decide) ?_
      exact law_36 hx hb hml hown hts hE hX hbl hP hD hS hl fin
    rcases Nat.eq_or_lt_of_le (show 37 ≤ j from by omega) with e37 | e37
    · subst e37
      refine lv_tableIn (off := 1104) (tgt := 1137) hx hb dL_law_33 (by decide) (by decide) (by decide) (by decide) ?_
      exact law_37 hx hb hml hown hts hE hX hbl hP hD hS hl fin
    rcases Nat.eq_or_lt_of_le (show 38 ≤ j from by omega) with e38 | e38
    · subst e38
      refine lv_tableIn (off := 1127) (tgt := 1160) hx hb dL_law_33 (by decide) (by decide) (by decide) (by decide) ?_
      exact law_38 hx hb hml hown hts hE hX hbl hP hD hS hl fin
    rcases Nat.eq_or_lt_of_le (show 39 ≤ j from by omega) with e39 | e39
    · subst e39
      refine lv_tableIn (off := 1176) (tgt := 1209) hx hb dL_law_33 (by decide) (by decide) (by decide) (by decide) ?_
      exact law_39 hx hb hml hown hts hE hX hbl hP hD hS hl fin
    rcases Nat.eq_or_lt_of_le (show 40 ≤ j from by omega) with e40 | e40
    · subst e40
      refine lv_tableIn (off := 1199) (tgt := 1232) hx hb dL_law_33 (by decide) (by decide) (by decide) (by decide) ?_
      exact law_40 hx hb hml hown hts hE hX hbl hP hD hS hl fin
    rcases Nat.eq_or_lt_of_le (show 41 ≤ j from by omega) with e41 | e41
    · subst e41
      refine lv_tableIn (off := 1222) (tgt := 1255) hx hb dL_law_33 (by decide) (by decide) (by decide) (by decide) ?_
      exact law_41 hx hb hml hown hts hE hX hbl hP hD hS hl fin
    rcases Nat.eq_or_lt_of_le (show 42 ≤ j from by omega) with e42 | e42
    · subst e42
      refine lv_tableIn (off := 1245) (tgt := 1278) hx hb dL_law_33 (by decide) (by decide) (by decide) (by decide) ?_
      exact law_42 hx hb hml hown hts hE hX hbl hP hD hS hl fin
    rcases Nat.eq_or_lt_of_le (show 43 ≤ j from by omega) with e43 | e43
    · subst e43
      refine lv_tableIn (off := 1278) (tgt := 1311) hx hb dL_law_33 (by decide) (by decide) (by decide) (by decide) ?_
      exact law_43 hx hb hml hown hts hE hX hbl hP hD hS hl fin
    rcases Nat.eq_or_lt_of_le (show 44 ≤ j from by omega) with e44 | e44
    · subst e44
      refine lv_tableIn (off := 1311) (tgt := 1344) hx hb dL_law_33 (by decide) (by decide) (by decide) (by decide) ?_
      exact law_44 hx hb hml hown hts hE hX hbl hP hD hS hl fin
    rcases Nat.eq_or_lt_of_le (show 45 ≤ j from by omega) with e45 | e45
    · subst e45
      refine lv_tableIn (off := 1334) (tgt := 1367) hx hb dL_law_33 (by decide) (by decide) (by decide) (by decide) ?_
      exact law_45 hx hb hml hown hts hE hX hbl hP hD hS hl fin
    rcases Nat.eq_or_lt_of_le (show 46 ≤ j from by omega) with e46 | e46
    · subst e46
      refine lv_tableIn (off := 1357) (tgt := 1390) hx hb dL_law_33 (by decide) (by decide) (by decide) (by decide) ?_
      exact law_46 hx hb hml hown hts hE hX hbl hP hD hS hl fin
    refine lv_tableOut (tgt := 1413) hx hb dL_law_33 (Or.inr (by rw [nI_toInt (by omega)]; omega)) (by decide) ?_
    exact fin _ _ _ hS hl
  · refine lv_icmp_gt (tgt := 1419) hx hb dL_law_24 (by decide) (fun _ => ?_) (fun c0 => absurd (pk_sneg (a := L) (b := 6) (by decide) (by omega)) c0)
    exact out _ _ _ hS
set_option maxHeartbeats 4000000 in
theorem lw_walk (l : Launch) (hflags : l.flags = flags0) (b : Addr) (xs : List Int32) : MetFree l x (headSpec (Jvm.Cond.code x code maxLocals ret :: tables_1) room_1) (lw_P b xs) (fun _ _ _ _ _ => True) lw_Q := by
  refine MetFree.of_bodyS (code := code) (maxLocals := maxLocals) (ret := ret) (by decide) ?_ ?_
  · intro args s m h hn
    obtain ⟨meth, c, h1, h2, h3, h4, h5, h6, -, -⟩ := Cond.code_spec hn (atoms_spec (ws := Jvm.Cond.code x code maxLocals ret :: tables_1) h _ List.mem_cons_self)
    exact ⟨meth, c, h1, h2, h3, h4, h5, h6⟩
  · intro p e s m args below meth c s₁ B hml0 hP _
    obtain ⟨rfl, hx, hbd, hgv⟩ := hP
    obtain ⟨scr, harrAt, hlist, hof, hsmall⟩ := hx
    obtain ⟨hcb, hkn, -, -⟩ := State.arrayAt?_spec harrAt
    have hown : s.vm.findClass R_law = some m.cls := findClass_of_methodNamed B.named
    have hts0 : ∀ c ∈ (Jvm.Cond.code x code maxLocals ret :: tables_1), c.before #[Value.ref b] s = true := atoms_spec (ws := Jvm.Cond.code x code maxLocals ret :: tables_1) B.pre
    have hts : ∀ w ∈ lw_tbl, w.before #[Value.ref b] s = true := k2_hts_sels lw_privs (fun w hw => hts0 w (List.mem_cons_of_mem _ hw)) lw_privs_ok
    have hml : c.maxLocals = 4 := B.maxLocals_eq (hts0 _ List.mem_cons_self)
    have X₀ : Stand p l e room_1 s m #[Value.ref b] below meth c s₁ [] 0 0 := Stand.of_body B
    have hh0 : s₁.heap = s.heap := by rw [B.state]; rfl
    have hsz : scr.slots.size = xs.length := by rw [← Array.length_toList, hlist, List.length_map]
    have hval : ∀ j : Nat, j < xs.length → scr.slots[j]? = some (.int (xs.getD j 0)) := fun j hj => by
      rw [← Array.getElem?_toList, hlist]
      simp [hj]
    have hbl : b < s.heap.size := (Array.getElem?_eq_some_iff.mp hcb).1
    have hX : va_X b xs.length (fun j => xs.getD j 0) s s.heap := ⟨scr, hcb, hof, hkn, hsz, hval⟩
    have K : W p l e room_1 s m #[Value.ref b] below meth c s₁.heap [] 0 0 (lw_Z below #[Value.ref b] s) (entryFrame m ([Value.ref b] : List Value).toArray 4) := by
      rw [hh0]
      exact whole_start l hflags hbd ⟨B.exec, B.bytes, B.returns, hml, hown, hts, hX, hbl, B.notSynchronized, hgv⟩
    obtain ⟨t, a1, o, b1, b2, b3⟩ := K s₁ rfl X₀
    exact ⟨t, o, a1, b1, b2, b3⟩
theorem lw_pre_spec {args : Array Value} {s : State} (h : (Jvm.Cond.and given_1 narrow_1).before args s = true) (hr : rest_1_c.before args s = true) : ∃ (b : Addr) (xs : List Int32), lw_P b xs args s := by
  have hs := flat_of_before _ h
  have hq := flat_of_before _ hr
  have hc : (Cond.count 1).before args s = true := hs _ (by decide +kernel)
  have harr : (Cond.arrayOf (.arg 0) .int).before args s = true := hs _ (by decide +kernel)
  have hle : (Cond.le (.length (.arg 0)) (.int 6)).before args s = true := hs _ (by decide +kernel)
  have hlen : (Cond.isInt (.length (.arg 0))).before args s = true := hq _ (by decide +kernel)
  have hall : (Cond.all (.arg 0) (.isInt (.elem (.arg 0) (.index 0)))).before args s = true := hq _ (by decide +kernel)
  obtain ⟨b, xs, hb, hx⟩ := State.ints_of_pre rfl harr hlen hall
  have hsm : xs.length < 2 ^ 31 := hx.choose_spec.2.2.2
  have hev : (Term.length (.arg 0)).eval args s none [] s = some (.int xs.length.toInt32) := hx.length_eval hb
  have hv := Cond.le_ints hev (show (Term.int 6).eval args s none [] s = some (.int 6) from rfl)
  have hd : xs.length.toInt32 ≤ 6 := by
    simpa [Cond.before, Cond.holds, hv] using hle
  have hN : xs.length ≤ 6 := (Int32.ofNat_le_ofNat hsm (by decide)).mp (show Int32.ofNat xs.length ≤ Int32.ofNat 6 from hd)
  exact ⟨b, xs, Cond.one_arg hc (show args[0]? = some (.ref b) from hb), hx, hN, h⟩
theorem lw_comes (l : Launch) (hflags : l.flags = flags0) : Comes l x (Jvm.Cond.code x code maxLocals ret :: tables_1) room_1 (fun tb e args s => Calls_1 tb e args s ∧ rest_1 tb e args s ∧ Pre_1 tb e args s)
    (fun _ _ args s o t => lw_Q args s o t) := by
  intro p e ha hc hk s m args below hf hfit hheap happ hpre
  obtain ⟨b, xs, hP⟩ := lw_pre_spec hpre.2.2 hpre.2.1
  obtain ⟨k, o, h1, h2, h3, hQ⟩ := lw_walk l hflags b xs p e ha hc hk s m args below hf ((Spec.applies_iff_loose hf).mp happ).1 hP trivial
  exact ⟨k, o, h1, h2, h3, hQ⟩
theorem lw_frame {s t : State} {o : Outcome} {args : Array Value} (h : Framed s o t [] 600000 7302250) :
    Framed s o t (fieldLocs frame_1_writes args s ++ arrayLocs frame_1_arrays args s ++ staticLocs frame_1_statics s) 600000 7302250 := h
theorem lw_limb (L : Cond) (hL : ∀ (args : Array Value) (s t : State), L.after args s (.returned (some (.int 1))) t = true) :
    ArmFor flags0 classFile x code maxLocals ret World_1 tables_1 room_1 Calls_1 rest_1 Pre_1
      (fun tb e a s o t => postC L tb e a s o t ∧ Framed s o t (fieldLocs frame_1_writes a s ++ arrayLocs frame_1_arrays a s ++ staticLocs frame_1_statics s) 600000 7302250) := by
  intro l hflags _ _ p e ha hc hk s m args below hf hfit hheap happ hpre
  obtain ⟨k, o, h1, h2, h3, rfl, hF⟩ := lw_comes l hflags p e ha hc hk s m args below hf hfit hheap happ hpre
  exact ⟨k, _, h1, h2, h3, hL args s _, lw_frame hF⟩
theorem i_vc : Claimed_1_1 ∧ Claimed_1_2 := ⟨lw_limb limb_1_1 (fun args s t => by simp [limb_1_1, Cond.after, Cond.holds, Cond.value]), lw_limb limb_1_2 (fun args s t => Cond.after_iff.mpr (by
  first | (rw [show limb_1_2 = Cond.eq .result (.int 1) from rfl, Cond.eq_ints (x := 1) (y := 1) rfl rfl]; simp; done) | (simp [limb_1_2, Cond.value, Term.eval]; done)))⟩
