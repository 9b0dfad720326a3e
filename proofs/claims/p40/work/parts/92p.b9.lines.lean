section
variable {NF : Nat}
def yT (NF : Nat) (q : (Nat → Int32) × (Nat → Nat → Int32) × Int64 × (Nat → Int64)) : (Nat → Int32) × (Nat → Nat → Int32) × Int64 × (Nat → Int64) :=
  match q with
  | (v, f, w, g) => yTail NF v f w g
def yTs (NF k : Nat) (q : Int32 × (Nat → Int32) × (Nat → Nat → Int32) × Int64 × (Nat → Int64)) : (Nat → Int32) × (Nat → Nat → Int32) × Int64 × (Nat → Int64) :=
  match q with
  | (r, v, f, w, g) => yTail NF (upd v k r) f w g
theorem yl_101 {c : Nat → Nat} {n i : Nat} {v1 : Nat → Int32} {f1 : Nat → Nat → Int32} {w1 : Int64} {g : Nat → Int64} (hc : ∀ k, k < n → c k < 256) (C1 : CY c n i v1 w1) : gsY_X11_readLine_1 NF v1 f1 w1 g = if tk_k c n i = 101 then (if 6 ≤ v1 17 then gsY_X11_readLine_1_J1 NF v1 f1 w1 g else yT NF (gsY_X11_readMan_1 NF v1 f1 w1 g)) else gsY_X11_readLine_1_J1 NF v1 f1 w1 g := by
  unfold gsY_X11_readLine_1
  rw [yIsW hc C1 (k := 101) (by decide) (by decide) (by decide +kernel)]
  by_cases e : tk_k c n i = 101
  · rw [if_pos e, if_pos e, ite11]; rfl
  · rw [if_neg e, if_neg e, ite01]
theorem yl_102 {c : Nat → Nat} {n i : Nat} {v1 : Nat → Int32} {f1 : Nat → Nat → Int32} {w1 : Int64} {g : Nat → Int64} (hc : ∀ k, k < n → c k < 256) (C1 : CY c n i v1 w1) : gsY_X11_readLine_1_J1 NF v1 f1 w1 g = if tk_k c n i = 102 then (if 6 ≤ v1 18 then gsY_X11_readLine_1_J2 NF v1 f1 w1 g else yT NF (gsY_X11_readCoat_1 NF v1 f1 w1 g)) else gsY_X11_readLine_1_J2 NF v1 f1 w1 g := by
  unfold gsY_X11_readLine_1_J1
  rw [yIsW hc C1 (k := 102) (by decide) (by decide) (by decide +kernel)]
  by_cases e : tk_k c n i = 102
  · rw [if_pos e, if_pos e, ite11]; rfl
  · rw [if_neg e, if_neg e, ite01]
theorem yl_103 {c : Nat → Nat} {n i : Nat} {v1 : Nat → Int32} {f1 : Nat → Nat → Int32} {w1 : Int64} {g : Nat → Int64} (hc : ∀ k, k < n → c k < 256) (C1 : CY c n i v1 w1) : gsY_X11_readLine_1_J2 NF v1 f1 w1 g = if tk_k c n i = 103 then (if v1 15 = 0 then yT NF (gsY_X11_formula_1 NF v1 f1 w1 g) else gsY_X11_readLine_1_J3 NF v1 f1 w1 g) else gsY_X11_readLine_1_J3 NF v1 f1 w1 g := by
  unfold gsY_X11_readLine_1_J2
  rw [yIsW hc C1 (k := 103) (by decide) (by decide) (by decide +kernel)]
  by_cases e : tk_k c n i = 103
  · rw [if_pos e, if_pos e, ite11]; rfl
  · rw [if_neg e, if_neg e, ite01]
theorem yl_104 {c : Nat → Nat} {n i : Nat} {v1 : Nat → Int32} {f1 : Nat → Nat → Int32} {w1 : Int64} {g : Nat → Int64} (hc : ∀ k, k < n → c k < 256) (C1 : CY c n i v1 w1) : gsY_X11_readLine_1_J3 NF v1 f1 w1 g = if tk_k c n i = 104 then (if v1 30 = 0 then yTs NF 19 (gsY_X11_told_1 NF 1700885369 999 (upd v1 30 1) f1 w1 g) else gsY_X11_readLine_1_J4 NF v1 f1 w1 g) else gsY_X11_readLine_1_J4 NF v1 f1 w1 g := by
  unfold gsY_X11_readLine_1_J3
  rw [yIsW hc C1 (k := 104) (by decide) (by decide) (by decide +kernel)]
  by_cases e : tk_k c n i = 104
  · rw [if_pos e, if_pos e, ite11]; rfl
  · rw [if_neg e, if_neg e, ite01]
theorem yl_105 {c : Nat → Nat} {n i : Nat} {v1 : Nat → Int32} {f1 : Nat → Nat → Int32} {w1 : Int64} {g : Nat → Int64} (hc : ∀ k, k < n → c k < 256) (C1 : CY c n i v1 w1) : gsY_X11_readLine_1_J4 NF v1 f1 w1 g = if tk_k c n i = 105 then (if v1 31 = 0 then yTs NF 20 (gsY_X11_told_1 NF 1651469428 999 (upd v1 31 1) f1 w1 g) else gsY_X11_readLine_1_J5 NF v1 f1 w1 g) else gsY_X11_readLine_1_J5 NF v1 f1 w1 g := by
  unfold gsY_X11_readLine_1_J4
  rw [yIsW hc C1 (k := 105) (by decide) (by decide) (by decide +kernel)]
  by_cases e : tk_k c n i = 105
  · rw [if_pos e, if_pos e, ite11]; rfl
  · rw [if_neg e, if_neg e, ite01]
theorem yl_106 {c : Nat → Nat} {n i : Nat} {v1 : Nat → Int32} {f1 : Nat → Nat → Int32} {w1 : Int64} {g : Nat → Int64} (hc : ∀ k, k < n → c k < 256) (C1 : CY c n i v1 w1) : gsY_X11_readLine_1_J5 NF v1 f1 w1 g = if tk_k c n i = 106 then (if v1 32 = 0 then yTs NF 21 (gsY_X11_told_1 NF 1818848101 99 (upd v1 32 1) f1 w1 g) else gsY_X11_readLine_1_J6 NF v1 f1 w1 g) else gsY_X11_readLine_1_J6 NF v1 f1 w1 g := by
  unfold gsY_X11_readLine_1_J5
  rw [yIsW hc C1 (k := 106) (by decide) (by decide) (by decide +kernel)]
  by_cases e : tk_k c n i = 106
  · rw [if_pos e, if_pos e, ite11]; rfl
  · rw [if_neg e, if_neg e, ite01]
theorem yl_107 {c : Nat → Nat} {n i : Nat} {v1 : Nat → Int32} {f1 : Nat → Nat → Int32} {w1 : Int64} {g : Nat → Int64} (hc : ∀ k, k < n → c k < 256) (C1 : CY c n i v1 w1) : gsY_X11_readLine_1_J6 NF v1 f1 w1 g = if tk_k c n i = 107 then (if v1 33 = 0 then yTs NF 22 (gsY_X11_told_1 NF 1918986606 100 (upd v1 33 1) f1 w1 g) else gsY_X11_readLine_1_J7 NF v1 f1 w1 g) else gsY_X11_readLine_1_J7 NF v1 f1 w1 g := by
  unfold gsY_X11_readLine_1_J6
  rw [yIsW hc C1 (k := 107) (by decide) (by decide) (by decide +kernel)]
  by_cases e : tk_k c n i = 107
  · rw [if_pos e, if_pos e, ite11]; rfl
  · rw [if_neg e, if_neg e, ite01]
theorem yl_108 {c : Nat → Nat} {n i : Nat} {v1 : Nat → Int32} {f1 : Nat → Nat → Int32} {w1 : Int64} {g : Nat → Int64} (hc : ∀ k, k < n → c k < 256) (C1 : CY c n i v1 w1) : gsY_X11_readLine_1_J7 NF v1 f1 w1 g = if tk_k c n i = 108 then (if v1 34 = 0 then yTs NF 23 (gsY_X11_told_1 NF 1685217655 999 (upd v1 34 1) f1 w1 g) else gsY_X11_readLine_1_J8 NF v1 f1 w1 g) else gsY_X11_readLine_1_J8 NF v1 f1 w1 g := by
  unfold gsY_X11_readLine_1_J7
  rw [yIsW hc C1 (k := 108) (by decide) (by decide) (by decide +kernel)]
  by_cases e : tk_k c n i = 108
  · rw [if_pos e, if_pos e, ite11]; rfl
  · rw [if_neg e, if_neg e, ite01]
theorem yl_end {c : Nat → Nat} {n i : Nat} {v : Nat → Int32} {f : Nat → Nat → Int32} {v1 : Nat → Int32} {f1 : Nat → Nat → Int32} {w1 : Int64} {g : Nat → Int64} (hc : ∀ k, k < n → c k < 256) (h : TP c n i v f v1 f1 w1) : ∃ v' v1', gsX_X6_refuse_1 NF v f = (0, v', f) ∧ gsY_X11_readLine_1_J8 NF v1 f1 w1 g = (v1', f1, w1, g) ∧ LF c n v' v1' := by
  obtain ⟨v', v1', a, b, d, s, s0, s1, s2⟩ := TP.ref (NF := NF) (g := g) hc h
  have e2 : ¬ nI s = 0 := nI_ne0 s0 (by omega)
  exact ⟨v', v1', a, by simp only [gsY_X11_readLine_1_J8, b, s2, if_neg e2], d.lf⟩
theorem LR.sett1 {c : Nat → Nat} {n i i' a b t : Nat} {v v' : Nat → Int32} {f : Nat → Nat → Int32} {v1 v1' : Nat → Int32} {f1 : Nat → Nat → Int32} {w1 w1' : Int64} {g : Nat → Int64} {x : Int32} (hx : 0 ≤ x ∧ x ≤ 999) (h : LR c n v f v1 f1 w1 g i a b t) (hb : t / 2 ^ 1 % 2 = 0) (h' : TP c n i' v' f v1' f1 w1') (X : X4 (upd v 6 (nI (t + 2 ^ 1))) v') (Y : Y4 (upd v1 30 1) v1') : LR c n (upd v' 11 x) f (upd v1' 19 x) f1 w1' g i' a b (t + 2 ^ 1) ∧ tBits (t + 2 ^ 1) = tBits t + 1 := by
  obtain ⟨_, ⟨p7, p8, p2⟩, ⟨a1, a2, a3⟩, ⟨b1, b2, b3⟩, m, d, n1, n2, ⟨t0, t6, t15, t30, t31, t32, t33, t34⟩, ⟨s1, s2, s3, s4, s5, s6⟩, o1, o2⟩ := h
  obtain ⟨_, q⟩ := opn t t0 1 (by decide)
  obtain ⟨_, q2, q3, q4⟩ := q hb
  have XX : ∀ k, 7 ≤ k → k ≠ 11 → upd v' 11 x k = v k := fun k hk hk2 => (pk_un hk2).trans ((X k (by omega) (by omega) (by omega) (by omega)).trans (pk_un (by omega)))
  have YY : ∀ k, k = 2 ∨ 8 ≤ k → k ≠ 19 → k ≠ 30 → upd v1' 19 x k = v1 k := fun k hk hk2 hk3 => (pk_un hk2).trans ((Y k (by omega) (by omega) (by omega) (by omega)).trans (pk_un hk3))
  have yfl : upd v1' 19 x 30 = 1 := (pk_un (by decide)).trans ((Y 30 (by decide) (by decide) (by decide) (by decide)).trans pk_us)
  have e0 := q4 0 (by decide)
  have e1 := q4 1 (by decide)
  have e2 := q4 2 (by decide)
  have e3 := q4 3 (by decide)
  have e4 := q4 4 (by decide)
  have e5 := q4 5 (by decide)
  have par : (t + 2 ^ 1) % 2 = t % 2 := by simpa using e0
  refine ⟨⟨(h'.upX (by decide)).upY (by decide), ⟨(XX 7 (by decide) (by decide)).trans p7, (XX 8 (by decide) (by decide)).trans p8, (YY 2 (by decide) (by decide) (by decide)).trans p2⟩, ⟨(XX 9 (by decide) (by decide)).trans a1, (YY 17 (by decide) (by decide) (by decide)).trans a2, a3⟩, ⟨(XX 10 (by decide) (by decide)).trans b1, (YY 18 (by decide) (by decide) (by decide)).trans b2, b3⟩, m, d, n1, n2, ⟨q2, (pk_un (by decide)).trans ((X 6 (by decide) (by decide) (by decide) (by decide)).trans pk_us), ?_, ?_, ?_, ?_, ?_, ?_⟩, ?_, fun z => ?_, fun z => ?_⟩, q3⟩
  · rw [YY 15 (by decide) (by decide) (by decide), par]; exact t15
  · rw [yfl, show (t + 2 ^ 1) / 2 % 2 = 1 from e1]; rfl
  · rw [YY 31 (by decide) (by decide) (by decide), show (t + 2 ^ 1) / 4 % 2 = t / 4 % 2 from e2]; exact t31
  · rw [YY 32 (by decide) (by decide) (by decide), show (t + 2 ^ 1) / 8 % 2 = t / 8 % 2 from e3]; exact t32
  · rw [YY 33 (by decide) (by decide) (by decide), show (t + 2 ^ 1) / 16 % 2 = t / 16 % 2 from e4]; exact t33
  · rw [YY 34 (by decide) (by decide) (by decide), show (t + 2 ^ 1) / 32 % 2 = t / 32 % 2 from e5]; exact t34
  · exact ⟨by rw [pk_us, pk_us], by rw [XX 12 (by decide) (by decide), YY 20 (by decide) (by decide) (by decide)]; exact s2, by rw [XX 13 (by decide) (by decide), YY 21 (by decide) (by decide) (by decide)]; exact s3, by rw [XX 14 (by decide) (by decide), YY 22 (by decide) (by decide) (by decide)]; exact s4, by rw [XX 15 (by decide) (by decide), YY 23 (by decide) (by decide) (by decide)]; exact s5, by rw [pk_us, XX 12 (by decide) (by decide), XX 13 (by decide) (by decide), XX 14 (by decide) (by decide), XX 15 (by decide) (by decide)]; exact ⟨hx, s6.2.1, s6.2.2.1, s6.2.2.2.1, s6.2.2.2.2⟩⟩
  · rw [XX 16 (by decide) (by decide), XX 17 (by decide) (by decide), YY 11 (by decide) (by decide) (by decide)]; exact o1 (by rw [← par]; exact z)
  · rw [XX 16 (by decide) (by decide), XX 17 (by decide) (by decide), YY 11 (by decide) (by decide) (by decide), YY 8 (by decide) (by decide) (by decide)]; exact o2 (by rw [← par]; exact z)
theorem LR.sett2 {c : Nat → Nat} {n i i' a b t : Nat} {v v' : Nat → Int32} {f : Nat → Nat → Int32} {v1 v1' : Nat → Int32} {f1 : Nat → Nat → Int32} {w1 w1' : Int64} {g : Nat → Int64} {x : Int32} (hx : 0 ≤ x ∧ x ≤ 999) (h : LR c n v f v1 f1 w1 g i a b t) (hb : t / 2 ^ 2 % 2 = 0) (h' : TP c n i' v' f v1' f1 w1') (X : X4 (upd v 6 (nI (t + 2 ^ 2))) v') (Y : Y4 (upd v1 31 1) v1') : LR c n (upd v' 12 x) f (upd v1' 20 x) f1 w1' g i' a b (t + 2 ^ 2) ∧ tBits (t + 2 ^ 2) = tBits t + 1 := by
  obtain ⟨_, ⟨p7, p8, p2⟩, ⟨a1, a2, a3⟩, ⟨b1, b2, b3⟩, m, d, n1, n2, ⟨t0, t6, t15, t30, t31, t32, t33, t34⟩, ⟨s1, s2, s3, s4, s5, s6⟩, o1, o2⟩ := h
  obtain ⟨_, q⟩ := opn t t0 2 (by decide)
  obtain ⟨_, q2, q3, q4⟩ := q hb
  have XX : ∀ k, 7 ≤ k → k ≠ 12 → upd v' 12 x k = v k := fun k hk hk2 => (pk_un hk2).trans ((X k (by omega) (by omega) (by omega) (by omega)).trans (pk_un (by omega)))
  have YY : ∀ k, k = 2 ∨ 8 ≤ k → k ≠ 20 → k ≠ 31 → upd v1' 20 x k = v1 k := fun k hk hk2 hk3 => (pk_un hk2).trans ((Y k (by omega) (by omega) (by omega) (by omega)).trans (pk_un hk3))
  have yfl : upd v1' 20 x 31 = 1 := (pk_un (by decide)).trans ((Y 31 (by decide) (by decide) (by decide) (by decide)).trans pk_us)
  have e0 := q4 0 (by decide)
  have e1 := q4 1 (by decide)
  have e2 := q4 2 (by decide)
  have e3 := q4 3 (by decide)
  have e4 := q4 4 (by decide)
  have e5 := q4 5 (by decide)
  have par : (t + 2 ^ 2) % 2 = t % 2 := by simpa using e0
  refine ⟨⟨(h'.upX (by decide)).upY (by decide), ⟨(XX 7 (by decide) (by decide)).trans p7, (XX 8 (by decide) (by decide)).trans p8, (YY 2 (by decide) (by decide) (by decide)).trans p2⟩, ⟨(XX 9 (by decide) (by decide)).trans a1, (YY 17 (by decide) (by decide) (by decide)).trans a2, a3⟩, ⟨(XX 10 (by decide) (by decide)).trans b1, (YY 18 (by decide) (by decide) (by decide)).trans b2, b3⟩, m, d, n1, n2, ⟨q2, (pk_un (by decide)).trans ((X 6 (by decide) (by decide) (by decide) (by decide)).trans pk_us), ?_, ?_, ?_, ?_, ?_, ?_⟩, ?_, fun z => ?_, fun z => ?_⟩, q3⟩
  · rw [YY 15 (by decide) (by decide) (by decide), par]; exact t15
  · rw [YY 30 (by decide) (by decide) (by decide), show (t + 2 ^ 2) / 2 % 2 = t / 2 % 2 from e1]; exact t30
  · rw [yfl, show (t + 2 ^ 2) / 4 % 2 = 1 from e2]; rfl
  · rw [YY 32 (by decide) (by decide) (by decide), show (t + 2 ^ 2) / 8 % 2 = t / 8 % 2 from e3]; exact t32
  · rw [YY 33 (by decide) (by decide) (by decide), show (t + 2 ^ 2) / 16 % 2 = t / 16 % 2 from e4]; exact t33
  · rw [YY 34 (by decide) (by decide) (by decide), show (t + 2 ^ 2) / 32 % 2 = t / 32 % 2 from e5]; exact t34
  · exact ⟨by rw [XX 11 (by decide) (by decide), YY 19 (by decide) (by decide) (by decide)]; exact s1, by rw [pk_us, pk_us], by rw [XX 13 (by decide) (by decide), YY 21 (by decide) (by decide) (by decide)]; exact s3, by rw [XX 14 (by decide) (by decide), YY 22 (by decide) (by decide) (by decide)]; exact s4, by rw [XX 15 (by decide) (by decide), YY 23 (by decide) (by decide) (by decide)]; exact s5, by rw [XX 11 (by decide) (by decide), pk_us, XX 13 (by decide) (by decide), XX 14 (by decide) (by decide), XX 15 (by decide) (by decide)]; exact ⟨s6.1, hx, s6.2.2.1, s6.2.2.2.1, s6.2.2.2.2⟩⟩
  · rw [XX 16 (by decide) (by decide), XX 17 (by decide) (by decide), YY 11 (by decide) (by decide) (by decide)]; exact o1 (by rw [← par]; exact z)
  · rw [XX 16 (by decide) (by decide), XX 17 (by decide) (by decide), YY 11 (by decide) (by decide) (by decide), YY 8 (by decide) (by decide) (by decide)]; exact o2 (by rw [← par]; exact z)
theorem LR.sett3 {c : Nat → Nat} {n i i' a b t : Nat} {v v' : Nat → Int32} {f : Nat → Nat → Int32} {v1 v1' : Nat → Int32} {f1 : Nat → Nat → Int32} {w1 w1' : Int64} {g : Nat → Int64} {x : Int32} (hx : 0 ≤ x ∧ x ≤ 99) (h : LR c n v f v1 f1 w1 g i a b t) (hb : t / 2 ^ 3 % 2 = 0) (h' : TP c n i' v' f v1' f1 w1') (X : X4 (upd v 6 (nI (t + 2 ^ 3))) v') (Y : Y4 (upd v1 32 1) v1') : LR c n (upd v' 13 x) f (upd v1' 21 x) f1 w1' g i' a b (t + 2 ^ 3) ∧ tBits (t + 2 ^ 3) = tBits t + 1 := by
  obtain ⟨_, ⟨p7, p8, p2⟩, ⟨a1, a2, a3⟩, ⟨b1, b2, b3⟩, m, d, n1, n2, ⟨t0, t6, t15, t30, t31, t32, t33, t34⟩, ⟨s1, s2, s3, s4, s5, s6⟩, o1, o2⟩ := h
  obtain ⟨_, q⟩ := opn t t0 3 (by decide)
  obtain ⟨_, q2, q3, q4⟩ := q hb
  have XX : ∀ k, 7 ≤ k → k ≠ 13 → upd v' 13 x k = v k := fun k hk hk2 => (pk_un hk2).trans ((X k (by omega) (by omega) (by omega) (by omega)).trans (pk_un (by omega)))
  have YY : ∀ k, k = 2 ∨ 8 ≤ k → k ≠ 21 → k ≠ 32 → upd v1' 21 x k = v1 k := fun k hk hk2 hk3 => (pk_un hk2).trans ((Y k (by omega) (by omega) (by omega) (by omega)).trans (pk_un hk3))
  have yfl : upd v1' 21 x 32 = 1 := (pk_un (by decide)).trans ((Y 32 (by decide) (by decide) (by decide) (by decide)).trans pk_us)
  have e0 := q4 0 (by decide)
  have e1 := q4 1 (by decide)
  have e2 := q4 2 (by decide)
  have e3 := q4 3 (by decide)
  have e4 := q4 4 (by decide)
  have e5 := q4 5 (by decide)
  have par : (t + 2 ^ 3) % 2 = t % 2 := by simpa using e0
  refine ⟨⟨(h'.upX (by decide)).upY (by decide), ⟨(XX 7 (by decide) (by decide)).trans p7, (XX 8 (by decide) (by decide)).trans p8, (YY 2 (by decide) (by decide) (by decide)).trans p2⟩, ⟨(XX 9 (by decide) (by decide)).trans a1, (YY 17 (by decide) (by decide) (by decide)).trans a2, a3⟩, ⟨(XX 10 (by decide) (by decide)).trans b1, (YY 18 (by decide) (by decide) (by decide)).trans b2, b3⟩, m, d, n1, n2, ⟨q2, (pk_un (by decide)).trans ((X 6 (by decide) (by decide) (by decide) (by decide)).trans pk_us), ?_, ?_, ?_, ?_, ?_, ?_⟩, ?_, fun z => ?_, fun z => ?_⟩, q3⟩
  · rw [YY 15 (by decide) (by decide) (by decide), par]; exact t15
  · rw [YY 30 (by decide) (by decide) (by decide), show (t + 2 ^ 3) / 2 % 2 = t / 2 % 2 from e1]; exact t30
  · rw [YY 31 (by decide) (by decide) (by decide), show (t + 2 ^ 3) / 4 % 2 = t / 4 % 2 from e2]; exact t31
  · rw [yfl, show (t + 2 ^ 3) / 8 % 2 = 1 from e3]; rfl
  · rw [YY 33 (by decide) (by decide) (by decide), show (t + 2 ^ 3) / 16 % 2 = t / 16 % 2 from e4]; exact t33
  · rw [YY 34 (by decide) (by decide) (by decide), show (t + 2 ^ 3) / 32 % 2 = t / 32 % 2 from e5]; exact t34
  · exact ⟨by rw [XX 11 (by decide) (by decide), YY 19 (by decide) (by decide) (by decide)]; exact s1, by rw [XX 12 (by decide) (by decide), YY 20 (by decide) (by decide) (by decide)]; exact s2, by rw [pk_us, pk_us], by rw [XX 14 (by decide) (by decide), YY 22 (by decide) (by decide) (by decide)]; exact s4, by rw [XX 15 (by decide) (by decide), YY 23 (by decide) (by decide) (by decide)]; exact s5, by rw [XX 11 (by decide) (by decide), XX 12 (by decide) (by decide), pk_us, XX 14 (by decide) (by decide), XX 15 (by decide) (by decide)]; exact ⟨s6.1, s6.2.1, hx, s6.2.2.2.1, s6.2.2.2.2⟩⟩
  · rw [XX 16 (by decide) (by decide), XX 17 (by decide) (by decide), YY 11 (by decide) (by decide) (by decide)]; exact o1 (by rw [← par]; exact z)
  · rw [XX 16 (by decide) (by decide), XX 17 (by decide) (by decide), YY 11 (by decide) (by decide) (by decide), YY 8 (by decide) (by decide) (by decide)]; exact o2 (by rw [← par]; exact z)
theorem LR.sett4 {c : Nat → Nat} {n i i' a b t : Nat} {v v' : Nat → Int32} {f : Nat → Nat → Int32} {v1 v1' : Nat → Int32} {f1 : Nat → Nat → Int32} {w1 w1' : Int64} {g : Nat → Int64} {x : Int32} (hx : 0 ≤ x ∧ x ≤ 100) (h : LR c n v f v1 f1 w1 g i a b t) (hb : t / 2 ^ 4 % 2 = 0) (h' : TP c n i' v' f v1' f1 w1') (X : X4 (upd v 6 (nI (t + 2 ^ 4))) v') (Y : Y4 (upd v1 33 1) v1') : LR c n (upd v' 14 x) f (upd v1' 22 x) f1 w1' g i' a b (t + 2 ^ 4) ∧ tBits (t + 2 ^ 4) = tBits t + 1 := by
  obtain ⟨_, ⟨p7, p8, p2⟩, ⟨a1, a2, a3⟩, ⟨b1, b2, b3⟩, m, d, n1, n2, ⟨t0, t6, t15, t30, t31, t32, t33, t34⟩, ⟨s1, s2, s3, s4, s5, s6⟩, o1, o2⟩ := h
  obtain ⟨_, q⟩ := opn t t0 4 (by decide)
  obtain ⟨_, q2, q3, q4⟩ := q hb
  have XX : ∀ k, 7 ≤ k → k ≠ 14 → upd v' 14 x k = v k := fun k hk hk2 => (pk_un hk2).trans ((X k (by omega) (by omega) (by omega) (by omega)).trans (pk_un (by omega)))
  have YY : ∀ k, k = 2 ∨ 8 ≤ k → k ≠ 22 → k ≠ 33 → upd v1' 22 x k = v1 k := fun k hk hk2 hk3 => (pk_un hk2).trans ((Y k (by omega) (by omega) (by omega) (by omega)).trans (pk_un hk3))
  have yfl : upd v1' 22 x 33 = 1 := (pk_un (by decide)).trans ((Y 33 (by decide) (by decide) (by decide) (by decide)).trans pk_us)
  have e0 := q4 0 (by decide)
  have e1 := q4 1 (by decide)
  have e2 := q4 2 (by decide)
  have e3 := q4 3 (by decide)
  have e4 := q4 4 (by decide)
  have e5 := q4 5 (by decide)
  have par : (t + 2 ^ 4) % 2 = t % 2 := by simpa using e0
  refine ⟨⟨(h'.upX (by decide)).upY (by decide), ⟨(XX 7 (by decide) (by decide)).trans p7, (XX 8 (by decide) (by decide)).trans p8, (YY 2 (by decide) (by decide) (by decide)).trans p2⟩, ⟨(XX 9 (by decide) (by decide)).trans a1, (YY 17 (by decide) (by decide) (by decide)).trans a2, a3⟩, ⟨(XX 10 (by decide) (by decide)).trans b1, (YY 18 (by decide) (by decide) (by decide)).trans b2, b3⟩, m, d, n1, n2, ⟨q2, (pk_un (by decide)).trans ((X 6 (by decide) (by decide) (by decide) (by decide)).trans pk_us), ?_, ?_, ?_, ?_, ?_, ?_⟩, ?_, fun z => ?_, fun z => ?_⟩, q3⟩
  · rw [YY 15 (by decide) (by decide) (by decide), par]; exact t15
  · rw [YY 30 (by decide) (by decide) (by decide), show (t + 2 ^ 4) / 2 % 2 = t / 2 % 2 from e1]; exact t30
  · rw [YY 31 (by decide) (by decide) (by decide), show (t + 2 ^ 4) / 4 % 2 = t / 4 % 2 from e2]; exact t31
  · rw [YY 32 (by decide) (by decide) (by decide), show (t + 2 ^ 4) / 8 % 2 = t / 8 % 2 from e3]; exact t32
  · rw [yfl, show (t + 2 ^ 4) / 16 % 2 = 1 from e4]; rfl
  · rw [YY 34 (by decide) (by decide) (by decide), show (t + 2 ^ 4) / 32 % 2 = t / 32 % 2 from e5]; exact t34
  · exact ⟨by rw [XX 11 (by decide) (by decide), YY 19 (by decide) (by decide) (by decide)]; exact s1, by rw [XX 12 (by decide) (by decide), YY 20 (by decide) (by decide) (by decide)]; exact s2, by rw [XX 13 (by decide) (by decide), YY 21 (by decide) (by decide) (by decide)]; exact s3, by rw [pk_us, pk_us], by rw [XX 15 (by decide) (by decide), YY 23 (by decide) (by decide) (by decide)]; exact s5, by rw [XX 11 (by decide) (by decide), XX 12 (by decide) (by decide), XX 13 (by decide) (by decide), pk_us, XX 15 (by decide) (by decide)]; exact ⟨s6.1, s6.2.1, s6.2.2.1, hx, s6.2.2.2.2⟩⟩
  · rw [XX 16 (by decide) (by decide), XX 17 (by decide) (by decide), YY 11 (by decide) (by decide) (by decide)]; exact o1 (by rw [← par]; exact z)
  · rw [XX 16 (by decide) (by decide), XX 17 (by decide) (by decide), YY 11 (by decide) (by decide) (by decide), YY 8 (by decide) (by decide) (by decide)]; exact o2 (by rw [← par]; exact z)
theorem LR.sett5 {c : Nat → Nat} {n i i' a b t : Nat} {v v' : Nat → Int32} {f : Nat → Nat → Int32} {v1 v1' : Nat → Int32} {f1 : Nat → Nat → Int32} {w1 w1' : Int64} {g : Nat → Int64} {x : Int32} (hx : 0 ≤ x ∧ x ≤ 999) (h : LR c n v f v1 f1 w1 g i a b t) (hb : t / 2 ^ 5 % 2 = 0) (h' : TP c n i' v' f v1' f1 w1') (X : X4 (upd v 6 (nI (t + 2 ^ 5))) v') (Y : Y4 (upd v1 34 1) v1') : LR c n (upd v' 15 x) f (upd v1' 23 x) f1 w1' g i' a b (t + 2 ^ 5) ∧ tBits (t + 2 ^ 5) = tBits t + 1 := by
  obtain ⟨_, ⟨p7, p8, p2⟩, ⟨a1, a2, a3⟩, ⟨b1, b2, b3⟩, m, d, n1, n2, ⟨t0, t6, t15, t30, t31, t32, t33, t34⟩, ⟨s1, s2, s3, s4, s5, s6⟩, o1, o2⟩ := h
  obtain ⟨_, q⟩ := opn t t0 5 (by decide)
  obtain ⟨_, q2, q3, q4⟩ := q hb
  have XX : ∀ k, 7 ≤ k → k ≠ 15 → upd v' 15 x k = v k := fun k hk hk2 => (pk_un hk2).trans ((X k (by omega) (by omega) (by omega) (by omega)).trans (pk_un (by omega)))
  have YY : ∀ k, k = 2 ∨ 8 ≤ k → k ≠ 23 → k ≠ 34 → upd v1' 23 x k = v1 k := fun k hk hk2 hk3 => (pk_un hk2).trans ((Y k (by omega) (by omega) (by omega) (by omega)).trans (pk_un hk3))
  have yfl : upd v1' 23 x 34 = 1 := (pk_un (by decide)).trans ((Y 34 (by decide) (by decide) (by decide) (by decide)).trans pk_us)
  have e0 := q4 0 (by decide)
  have e1 := q4 1 (by decide)
  have e2 := q4 2 (by decide)
  have e3 := q4 3 (by decide)
  have e4 := q4 4 (by decide)
  have e5 := q4 5 (by decide)
  have par : (t + 2 ^ 5) % 2 = t % 2 := by simpa using e0
  refine ⟨⟨(h'.upX (by decide)).upY (by decide), ⟨(XX 7 (by decide) (by decide)).trans p7, (XX 8 (by decide) (by decide)).trans p8, (YY 2 (by decide) (by decide) (by decide)).trans p2⟩, ⟨(XX 9 (by decide) (by decide)).trans a1, (YY 17 (by decide) (by decide) (by decide)).trans a2, a3⟩, ⟨(XX 10 (by decide) (by decide)).trans b1, (YY 18 (by decide) (by decide) (by decide)).trans b2, b3⟩, m, d, n1, n2, ⟨q2, (pk_un (by decide)).trans ((X 6 (by decide) (by decide) (by decide) (by decide)).trans pk_us), ?_, ?_, ?_, ?_, ?_, ?_⟩, ?_, fun z => ?_, fun z => ?_⟩, q3⟩
  · rw [YY 15 (by decide) (by decide) (by decide), par]; exact t15
  · rw [YY 30 (by decide) (by decide) (by decide), show (t + 2 ^ 5) / 2 % 2 = t / 2 % 2 from e1]; exact t30
  · rw [YY 31 (by decide) (by decide) (by decide), show (t + 2 ^ 5) / 4 % 2 = t / 4 % 2 from e2]; exact t31
  · rw [YY 32 (by decide) (by decide) (by decide), show (t + 2 ^ 5) / 8 % 2 = t / 8 % 2 from e3]; exact t32
  · rw [YY 33 (by decide) (by decide) (by decide), show (t + 2 ^ 5) / 16 % 2 = t / 16 % 2 from e4]; exact t33
  · rw [yfl, show (t + 2 ^ 5) / 32 % 2 = 1 from e5]; rfl
  · exact ⟨by rw [XX 11 (by decide) (by decide), YY 19 (by decide) (by decide) (by decide)]; exact s1, by rw [XX 12 (by decide) (by decide), YY 20 (by decide) (by decide) (by decide)]; exact s2, by rw [XX 13 (by decide) (by decide), YY 21 (by decide) (by decide) (by decide)]; exact s3, by rw [XX 14 (by decide) (by decide), YY 22 (by decide) (by decide) (by decide)]; exact s4, by rw [pk_us, pk_us], by rw [XX 11 (by decide) (by decide), XX 12 (by decide) (by decide), XX 13 (by decide) (by decide), XX 14 (by decide) (by decide), pk_us]; exact ⟨s6.1, s6.2.1, s6.2.2.1, s6.2.2.2.1, hx⟩⟩
  · rw [XX 16 (by decide) (by decide), XX 17 (by decide) (by decide), YY 11 (by decide) (by decide) (by decide)]; exact o1 (by rw [← par]; exact z)
  · rw [XX 16 (by decide) (by decide), XX 17 (by decide) (by decide), YY 11 (by decide) (by decide) (by decide), YY 8 (by decide) (by decide) (by decide)]; exact o2 (by rw [← par]; exact z)
end
