section
variable {NF : Nat}
theorem stkF {g : XG} : (fun v f => stk NF (g v f)) = g := funext (fun v => funext (fun f => stk_eq NF (g v f)))
theorem u_7 : gsX_X6_unit_8 NF = xmUn NF (xmBr7 NF) := rfl
theorem ng_7 : gsX_X6_negation_1 NF = fun v f => xmB (gsX_X6_refuse_1 NF v f) := rfl
theorem e_7_5 : (gsX_X6_expression_48 NF) = fun v f => xmB (gsX_X6_unit_8 NF v f) := rfl
theorem el_7_4 : ∀ (m : Nat) (l : Int32) (v : Nat → Int32) (f : Nat → Nat → Int32), gsX_X6_expression_47_L6 NF m l v f = xmCh NF (gsX_X6_expression_48 NF) (nI 4) 1600 m l v f := by
  intro m
  induction m with
  | zero => intro l v f; rfl
  | succ m ih =>
    intro l v f
    simp only [gsX_X6_expression_47_L6, xmCh, ih]
    all_goals rfl
theorem e_7_4 : gsX_X6_expression_47 NF = xmLv NF (gsX_X6_expression_48 NF) (nI 4) 1600 := by
  funext v f
  unfold gsX_X6_expression_47 xmLv
  simp only [el_7_4]
theorem el_7_3 : ∀ (m : Nat) (l : Int32) (v : Nat → Int32) (f : Nat → Nat → Int32), gsX_X6_expression_46_L6 NF m l v f = xmCh NF (gsX_X6_expression_47 NF) (nI 3) 1600 m l v f := by
  intro m
  induction m with
  | zero => intro l v f; rfl
  | succ m ih =>
    intro l v f
    simp only [gsX_X6_expression_46_L6, xmCh, ih]
    all_goals rfl
theorem e_7_3 : gsX_X6_expression_46 NF = xmLv NF (gsX_X6_expression_47 NF) (nI 3) 1600 := by
  funext v f
  unfold gsX_X6_expression_46 xmLv
  simp only [el_7_3]
theorem el_7_2 : ∀ (m : Nat) (l : Int32) (v : Nat → Int32) (f : Nat → Nat → Int32), gsX_X6_expression_45_L7 NF m l v f = xmCh NF (gsX_X6_expression_46 NF) (nI 2) 1 m l v f := by
  intro m
  induction m with
  | zero => intro l v f; rfl
  | succ m ih =>
    intro l v f
    simp only [gsX_X6_expression_45_L7, xmCh, ih]
    all_goals rfl
theorem e_7_2 : gsX_X6_expression_45 NF = xmOne NF (gsX_X6_negation_1 NF) (gsX_X6_expression_46 NF) := by
  funext v f
  unfold gsX_X6_expression_45 xmOne xmLv xmB
  simp only [el_7_2]
  all_goals rfl
theorem el_7_1 : ∀ (m : Nat) (l : Int32) (v : Nat → Int32) (f : Nat → Nat → Int32), gsX_X6_expression_44_L6 NF m l v f = xmCh NF (gsX_X6_expression_45 NF) (nI 1) 1600 m l v f := by
  intro m
  induction m with
  | zero => intro l v f; rfl
  | succ m ih =>
    intro l v f
    simp only [gsX_X6_expression_44_L6, xmCh, ih]
    all_goals rfl
theorem e_7_1 : gsX_X6_expression_44 NF = xmLv NF (gsX_X6_expression_45 NF) (nI 1) 1600 := by
  funext v f
  unfold gsX_X6_expression_44 xmLv
  simp only [el_7_1]
theorem el_7_0 : ∀ (m : Nat) (l : Int32) (v : Nat → Int32) (f : Nat → Nat → Int32), gsX_X6_expression_43_L6 NF m l v f = xmCh NF (gsX_X6_expression_44 NF) (nI 0) 1600 m l v f := by
  intro m
  induction m with
  | zero => intro l v f; rfl
  | succ m ih =>
    intro l v f
    simp only [gsX_X6_expression_43_L6, xmCh, ih]
    all_goals rfl
theorem e_7_0 : gsX_X6_expression_43 NF = xmLv NF (gsX_X6_expression_44 NF) (nI 0) 1600 := by
  funext v f
  unfold gsX_X6_expression_43 xmLv
  simp only [el_7_0]
theorem u_6 : gsX_X6_unit_7 NF = xmUn NF (xmBra NF (gsX_X6_expression_43 NF)) := by
  have h : gsX_X6_unit_7 NF = xmUn NF (xmBra NF (fun v f => stk NF ((gsX_X6_expression_43 NF) v f))) := rfl
  rw [h, stkF]
theorem ng_6 : gsX_X6_negation_2 NF = xmNeg NF (gsX_X6_expression_45 NF) := by
  have h : gsX_X6_negation_2 NF = xmNeg NF (fun v f => stk NF ((gsX_X6_expression_45 NF) v f)) := rfl
  rw [h, stkF]
theorem e_6_5 : (gsX_X6_expression_42 NF) = fun v f => xmB (gsX_X6_unit_7 NF v f) := rfl
theorem el_6_4 : ∀ (m : Nat) (l : Int32) (v : Nat → Int32) (f : Nat → Nat → Int32), gsX_X6_expression_41_L6 NF m l v f = xmCh NF (gsX_X6_expression_42 NF) (nI 4) 1600 m l v f := by
  intro m
  induction m with
  | zero => intro l v f; rfl
  | succ m ih =>
    intro l v f
    simp only [gsX_X6_expression_41_L6, xmCh, ih]
    all_goals rfl
theorem e_6_4 : gsX_X6_expression_41 NF = xmLv NF (gsX_X6_expression_42 NF) (nI 4) 1600 := by
  funext v f
  unfold gsX_X6_expression_41 xmLv
  simp only [el_6_4]
theorem el_6_3 : ∀ (m : Nat) (l : Int32) (v : Nat → Int32) (f : Nat → Nat → Int32), gsX_X6_expression_40_L6 NF m l v f = xmCh NF (gsX_X6_expression_41 NF) (nI 3) 1600 m l v f := by
  intro m
  induction m with
  | zero => intro l v f; rfl
  | succ m ih =>
    intro l v f
    simp only [gsX_X6_expression_40_L6, xmCh, ih]
    all_goals rfl
theorem e_6_3 : gsX_X6_expression_40 NF = xmLv NF (gsX_X6_expression_41 NF) (nI 3) 1600 := by
  funext v f
  unfold gsX_X6_expression_40 xmLv
  simp only [el_6_3]
theorem el_6_2 : ∀ (m : Nat) (l : Int32) (v : Nat → Int32) (f : Nat → Nat → Int32), gsX_X6_expression_39_L7 NF m l v f = xmCh NF (gsX_X6_expression_40 NF) (nI 2) 1 m l v f := by
  intro m
  induction m with
  | zero => intro l v f; rfl
  | succ m ih =>
    intro l v f
    simp only [gsX_X6_expression_39_L7, xmCh, ih]
    all_goals rfl
theorem e_6_2 : gsX_X6_expression_39 NF = xmOne NF (gsX_X6_negation_2 NF) (gsX_X6_expression_40 NF) := by
  funext v f
  unfold gsX_X6_expression_39 xmOne xmLv xmB
  simp only [el_6_2]
  all_goals rfl
theorem el_6_1 : ∀ (m : Nat) (l : Int32) (v : Nat → Int32) (f : Nat → Nat → Int32), gsX_X6_expression_38_L6 NF m l v f = xmCh NF (gsX_X6_expression_39 NF) (nI 1) 1600 m l v f := by
  intro m
  induction m with
  | zero => intro l v f; rfl
  | succ m ih =>
    intro l v f
    simp only [gsX_X6_expression_38_L6, xmCh, ih]
    all_goals rfl
theorem e_6_1 : gsX_X6_expression_38 NF = xmLv NF (gsX_X6_expression_39 NF) (nI 1) 1600 := by
  funext v f
  unfold gsX_X6_expression_38 xmLv
  simp only [el_6_1]
theorem el_6_0 : ∀ (m : Nat) (l : Int32) (v : Nat → Int32) (f : Nat → Nat → Int32), gsX_X6_expression_37_L6 NF m l v f = xmCh NF (gsX_X6_expression_38 NF) (nI 0) 1600 m l v f := by
  intro m
  induction m with
  | zero => intro l v f; rfl
  | succ m ih =>
    intro l v f
    simp only [gsX_X6_expression_37_L6, xmCh, ih]
    all_goals rfl
theorem e_6_0 : gsX_X6_expression_37 NF = xmLv NF (gsX_X6_expression_38 NF) (nI 0) 1600 := by
  funext v f
  unfold gsX_X6_expression_37 xmLv
  simp only [el_6_0]
theorem u_5 : gsX_X6_unit_6 NF = xmUn NF (xmBra NF (gsX_X6_expression_37 NF)) := by
  have h : gsX_X6_unit_6 NF = xmUn NF (xmBra NF (fun v f => stk NF ((gsX_X6_expression_37 NF) v f))) := rfl
  rw [h, stkF]
theorem ng_5 : gsX_X6_negation_3 NF = xmNeg NF (gsX_X6_expression_39 NF) := by
  have h : gsX_X6_negation_3 NF = xmNeg NF (fun v f => stk NF ((gsX_X6_expression_39 NF) v f)) := rfl
  rw [h, stkF]
theorem e_5_5 : (gsX_X6_expression_36 NF) = fun v f => xmB (gsX_X6_unit_6 NF v f) := rfl
theorem el_5_4 : ∀ (m : Nat) (l : Int32) (v : Nat → Int32) (f : Nat → Nat → Int32), gsX_X6_expression_35_L6 NF m l v f = xmCh NF (gsX_X6_expression_36 NF) (nI 4) 1600 m l v f := by
  intro m
  induction m with
  | zero => intro l v f; rfl
  | succ m ih =>
    intro l v f
    simp only [gsX_X6_expression_35_L6, xmCh, ih]
    all_goals rfl
theorem e_5_4 : gsX_X6_expression_35 NF = xmLv NF (gsX_X6_expression_36 NF) (nI 4) 1600 := by
  funext v f
  unfold gsX_X6_expression_35 xmLv
  simp only [el_5_4]
theorem el_5_3 : ∀ (m : Nat) (l : Int32) (v : Nat → Int32) (f : Nat → Nat → Int32), gsX_X6_expression_34_L6 NF m l v f = xmCh NF (gsX_X6_expression_35 NF) (nI 3) 1600 m l v f := by
  intro m
  induction m with
  | zero => intro l v f; rfl
  | succ m ih =>
    intro l v f
    simp only [gsX_X6_expression_34_L6, xmCh, ih]
    all_goals rfl
theorem e_5_3 : gsX_X6_expression_34 NF = xmLv NF (gsX_X6_expression_35 NF) (nI 3) 1600 := by
  funext v f
  unfold gsX_X6_expression_34 xmLv
  simp only [el_5_3]
theorem el_5_2 : ∀ (m : Nat) (l : Int32) (v : Nat → Int32) (f : Nat → Nat → Int32), gsX_X6_expression_33_L7 NF m l v f = xmCh NF (gsX_X6_expression_34 NF) (nI 2) 1 m l v f := by
  intro m
  induction m with
  | zero => intro l v f; rfl
  | succ m ih =>
    intro l v f
    simp only [gsX_X6_expression_33_L7, xmCh, ih]
    all_goals rfl
theorem e_5_2 : gsX_X6_expression_33 NF = xmOne NF (gsX_X6_negation_3 NF) (gsX_X6_expression_34 NF) := by
  funext v f
  unfold gsX_X6_expression_33 xmOne xmLv xmB
  simp only [el_5_2]
  all_goals rfl
theorem el_5_1 : ∀ (m : Nat) (l : Int32) (v : Nat → Int32) (f : Nat → Nat → Int32), gsX_X6_expression_32_L6 NF m l v f = xmCh NF (gsX_X6_expression_33 NF) (nI 1) 1600 m l v f := by
  intro m
  induction m with
  | zero => intro l v f; rfl
  | succ m ih =>
    intro l v f
    simp only [gsX_X6_expression_32_L6, xmCh, ih]
    all_goals rfl
theorem e_5_1 : gsX_X6_expression_32 NF = xmLv NF (gsX_X6_expression_33 NF) (nI 1) 1600 := by
  funext v f
  unfold gsX_X6_expression_32 xmLv
  simp only [el_5_1]
theorem el_5_0 : ∀ (m : Nat) (l : Int32) (v : Nat → Int32) (f : Nat → Nat → Int32), gsX_X6_expression_31_L6 NF m l v f = xmCh NF (gsX_X6_expression_32 NF) (nI 0) 1600 m l v f := by
  intro m
  induction m with
  | zero => intro l v f; rfl
  | succ m ih =>
    intro l v f
    simp only [gsX_X6_expression_31_L6, xmCh, ih]
    all_goals rfl
theorem e_5_0 : gsX_X6_expression_31 NF = xmLv NF (gsX_X6_expression_32 NF) (nI 0) 1600 := by
  funext v f
  unfold gsX_X6_expression_31 xmLv
  simp only [el_5_0]
theorem u_4 : gsX_X6_unit_5 NF = xmUn NF (xmBra NF (gsX_X6_expression_31 NF)) := by
  have h : gsX_X6_unit_5 NF = xmUn NF (xmBra NF (fun v f => stk NF ((gsX_X6_expression_31 NF) v f))) := rfl
  rw [h, stkF]
theorem ng_4 : gsX_X6_negation_4 NF = xmNeg NF (gsX_X6_expression_33 NF) := by
  have h : gsX_X6_negation_4 NF = xmNeg NF (fun v f => stk NF ((gsX_X6_expression_33 NF) v f)) := rfl
  rw [h, stkF]
theorem e_4_5 : (gsX_X6_expression_30 NF) = fun v f => xmB (gsX_X6_unit_5 NF v f) := rfl
theorem el_4_4 : ∀ (m : Nat) (l : Int32) (v : Nat → Int32) (f : Nat → Nat → Int32), gsX_X6_expression_29_L6 NF m l v f = xmCh NF (gsX_X6_expression_30 NF) (nI 4) 1600 m l v f := by
  intro m
  induction m with
  | zero => intro l v f; rfl
  | succ m ih =>
    intro l v f
    simp only [gsX_X6_expression_29_L6, xmCh, ih]
    all_goals rfl
theorem e_4_4 : gsX_X6_expression_29 NF = xmLv NF (gsX_X6_expression_30 NF) (nI 4) 1600 := by
  funext v f
  unfold gsX_X6_expression_29 xmLv
  simp only [el_4_4]
theorem el_4_3 : ∀ (m : Nat) (l : Int32) (v : Nat → Int32) (f : Nat → Nat → Int32), gsX_X6_expression_28_L6 NF m l v f = xmCh NF (gsX_X6_expression_29 NF) (nI 3) 1600 m l v f := by
  intro m
  induction m with
  | zero => intro l v f; rfl
  | succ m ih =>
    intro l v f
    simp only [gsX_X6_expression_28_L6, xmCh, ih]
    all_goals rfl
theorem e_4_3 : gsX_X6_expression_28 NF = xmLv NF (gsX_X6_expression_29 NF) (nI 3) 1600 := by
  funext v f
  unfold gsX_X6_expression_28 xmLv
  simp only [el_4_3]
theorem el_4_2 : ∀ (m : Nat) (l : Int32) (v : Nat → Int32) (f : Nat → Nat → Int32), gsX_X6_expression_27_L7 NF m l v f = xmCh NF (gsX_X6_expression_28 NF) (nI 2) 1 m l v f := by
  intro m
  induction m with
  | zero => intro l v f; rfl
  | succ m ih =>
    intro l v f
    simp only [gsX_X6_expression_27_L7, xmCh, ih]
    all_goals rfl
theorem e_4_2 : gsX_X6_expression_27 NF = xmOne NF (gsX_X6_negation_4 NF) (gsX_X6_expression_28 NF) := by
  funext v f
  unfold gsX_X6_expression_27 xmOne xmLv xmB
  simp only [el_4_2]
  all_goals rfl
theorem el_4_1 : ∀ (m : Nat) (l : Int32) (v : Nat → Int32) (f : Nat → Nat → Int32), gsX_X6_expression_26_L6 NF m l v f = xmCh NF (gsX_X6_expression_27 NF) (nI 1) 1600 m l v f := by
  intro m
  induction m with
  | zero => intro l v f; rfl
  | succ m ih =>
    intro l v f
    simp only [gsX_X6_expression_26_L6, xmCh, ih]
    all_goals rfl
theorem e_4_1 : gsX_X6_expression_26 NF = xmLv NF (gsX_X6_expression_27 NF) (nI 1) 1600 := by
  funext v f
  unfold gsX_X6_expression_26 xmLv
  simp only [el_4_1]
theorem el_4_0 : ∀ (m : Nat) (l : Int32) (v : Nat → Int32) (f : Nat → Nat → Int32), gsX_X6_expression_25_L6 NF m l v f = xmCh NF (gsX_X6_expression_26 NF) (nI 0) 1600 m l v f := by
  intro m
  induction m with
  | zero => intro l v f; rfl
  | succ m ih =>
    intro l v f
    simp only [gsX_X6_expression_25_L6, xmCh, ih]
    all_goals rfl
theorem e_4_0 : gsX_X6_expression_25 NF = xmLv NF (gsX_X6_expression_26 NF) (nI 0) 1600 := by
  funext v f
  unfold gsX_X6_expression_25 xmLv
  simp only [el_4_0]
theorem u_3 : gsX_X6_unit_4 NF = xmUn NF (xmBra NF (gsX_X6_expression_25 NF)) := by
  have h : gsX_X6_unit_4 NF = xmUn NF (xmBra NF (fun v f => stk NF ((gsX_X6_expression_25 NF) v f))) := rfl
  rw [h, stkF]
theorem ng_3 : gsX_X6_negation_5 NF = xmNeg NF (gsX_X6_expression_27 NF) := by
  have h : gsX_X6_negation_5 NF = xmNeg NF (fun v f => stk NF ((gsX_X6_expression_27 NF) v f)) := rfl
  rw [h, stkF]
theorem e_3_5 : (gsX_X6_expression_24 NF) = fun v f => xmB (gsX_X6_unit_4 NF v f) := rfl
theorem el_3_4 : ∀ (m : Nat) (l : Int32) (v : Nat → Int32) (f : Nat → Nat → Int32), gsX_X6_expression_23_L6 NF m l v f = xmCh NF (gsX_X6_expression_24 NF) (nI 4) 1600 m l v f := by
  intro m
  induction m with
  | zero => intro l v f; rfl
  | succ m ih =>
    intro l v f
    simp only [gsX_X6_expression_23_L6, xmCh, ih]
    all_goals rfl
theorem e_3_4 : gsX_X6_expression_23 NF = xmLv NF (gsX_X6_expression_24 NF) (nI 4) 1600 := by
  funext v f
  unfold gsX_X6_expression_23 xmLv
  simp only [el_3_4]
theorem el_3_3 : ∀ (m : Nat) (l : Int32) (v : Nat → Int32) (f : Nat → Nat → Int32), gsX_X6_expression_22_L6 NF m l v f = xmCh NF (gsX_X6_expression_23 NF) (nI 3) 1600 m l v f := by
  intro m
  induction m with
  | zero => intro l v f; rfl
  | succ m ih =>
    intro l v f
    simp only [gsX_X6_expression_22_L6, xmCh, ih]
    all_goals rfl
theorem e_3_3 : gsX_X6_expression_22 NF = xmLv NF (gsX_X6_expression_23 NF) (nI 3) 1600 := by
  funext v f
  unfold gsX_X6_expression_22 xmLv
  simp only [el_3_3]
theorem el_3_2 : ∀ (m : Nat) (l : Int32) (v : Nat → Int32) (f : Nat → Nat → Int32), gsX_X6_expression_21_L7 NF m l v f = xmCh NF (gsX_X6_expression_22 NF) (nI 2) 1 m l v f := by
  intro m
  induction m with
  | zero => intro l v f; rfl
  | succ m ih =>
    intro l v f
    simp only [gsX_X6_expression_21_L7, xmCh, ih]
    all_goals rfl
theorem e_3_2 : gsX_X6_expression_21 NF = xmOne NF (gsX_X6_negation_5 NF) (gsX_X6_expression_22 NF) := by
  funext v f
  unfold gsX_X6_expression_21 xmOne xmLv xmB
  simp only [el_3_2]
  all_goals rfl
theorem el_3_1 : ∀ (m : Nat) (l : Int32) (v : Nat → Int32) (f : Nat → Nat → Int32), gsX_X6_expression_20_L6 NF m l v f = xmCh NF (gsX_X6_expression_21 NF) (nI 1) 1600 m l v f := by
  intro m
  induction m with
  | zero => intro l v f; rfl
  | succ m ih =>
    intro l v f
    simp only [gsX_X6_expression_20_L6, xmCh, ih]
    all_goals rfl
theorem e_3_1 : gsX_X6_expression_20 NF = xmLv NF (gsX_X6_expression_21 NF) (nI 1) 1600 := by
  funext v f
  unfold gsX_X6_expression_20 xmLv
  simp only [el_3_1]
theorem el_3_0 : ∀ (m : Nat) (l : Int32) (v : Nat → Int32) (f : Nat → Nat → Int32), gsX_X6_expression_19_L6 NF m l v f = xmCh NF (gsX_X6_expression_20 NF) (nI 0) 1600 m l v f := by
  intro m
  induction m with
  | zero => intro l v f; rfl
  | succ m ih =>
    intro l v f
    simp only [gsX_X6_expression_19_L6, xmCh, ih]
    all_goals rfl
theorem e_3_0 : gsX_X6_expression_19 NF = xmLv NF (gsX_X6_expression_20 NF) (nI 0) 1600 := by
  funext v f
  unfold gsX_X6_expression_19 xmLv
  simp only [el_3_0]
theorem u_2 : gsX_X6_unit_3 NF = xmUn NF (xmBra NF (gsX_X6_expression_19 NF)) := by
  have h : gsX_X6_unit_3 NF = xmUn NF (xmBra NF (fun v f => stk NF ((gsX_X6_expression_19 NF) v f))) := rfl
  rw [h, stkF]
theorem ng_2 : gsX_X6_negation_6 NF = xmNeg NF (gsX_X6_expression_21 NF) := by
  have h : gsX_X6_negation_6 NF = xmNeg NF (fun v f => stk NF ((gsX_X6_expression_21 NF) v f)) := rfl
  rw [h, stkF]
theorem e_2_5 : (gsX_X6_expression_18 NF) = fun v f => xmB (gsX_X6_unit_3 NF v f) := rfl
theorem el_2_4 : ∀ (m : Nat) (l : Int32) (v : Nat → Int32) (f : Nat → Nat → Int32), gsX_X6_expression_17_L6 NF m l v f = xmCh NF (gsX_X6_expression_18 NF) (nI 4) 1600 m l v f := by
  intro m
  induction m with
  | zero => intro l v f; rfl
  | succ m ih =>
    intro l v f
    simp only [gsX_X6_expression_17_L6, xmCh, ih]
    all_goals rfl
theorem e_2_4 : gsX_X6_expression_17 NF = xmLv NF (gsX_X6_expression_18 NF) (nI 4) 1600 := by
  funext v f
  unfold gsX_X6_expression_17 xmLv
  simp only [el_2_4]
theorem el_2_3 : ∀ (m : Nat) (l : Int32) (v : Nat → Int32) (f : Nat → Nat → Int32), gsX_X6_expression_16_L6 NF m l v f = xmCh NF (gsX_X6_expression_17 NF) (nI 3) 1600 m l v f := by
  intro m
  induction m with
  | zero => intro l v f; rfl
  | succ m ih =>
    intro l v f
    simp only [gsX_X6_expression_16_L6, xmCh, ih]
    all_goals rfl
theorem e_2_3 : gsX_X6_expression_16 NF = xmLv NF (gsX_X6_expression_17 NF) (nI 3) 1600 := by
  funext v f
  unfold gsX_X6_expression_16 xmLv
  simp only [el_2_3]
theorem el_2_2 : ∀ (m : Nat) (l : Int32) (v : Nat → Int32) (f : Nat → Nat → Int32), gsX_X6_expression_15_L7 NF m l v f = xmCh NF (gsX_X6_expression_16 NF) (nI 2) 1 m l v f := by
  intro m
  induction m with
  | zero => intro l v f; rfl
  | succ m ih =>
    intro l v f
    simp only [gsX_X6_expression_15_L7, xmCh, ih]
    all_goals rfl
theorem e_2_2 : gsX_X6_expression_15 NF = xmOne NF (gsX_X6_negation_6 NF) (gsX_X6_expression_16 NF) := by
  funext v f
  unfold gsX_X6_expression_15 xmOne xmLv xmB
  simp only [el_2_2]
  all_goals rfl
theorem el_2_1 : ∀ (m : Nat) (l : Int32) (v : Nat → Int32) (f : Nat → Nat → Int32), gsX_X6_expression_14_L6 NF m l v f = xmCh NF (gsX_X6_expression_15 NF) (nI 1) 1600 m l v f := by
  intro m
  induction m with
  | zero => intro l v f; rfl
  | succ m ih =>
    intro l v f
    simp only [gsX_X6_expression_14_L6, xmCh, ih]
    all_goals rfl
theorem e_2_1 : gsX_X6_expression_14 NF = xmLv NF (gsX_X6_expression_15 NF) (nI 1) 1600 := by
  funext v f
  unfold gsX_X6_expression_14 xmLv
  simp only [el_2_1]
theorem el_2_0 : ∀ (m : Nat) (l : Int32) (v : Nat → Int32) (f : Nat → Nat → Int32), gsX_X6_expression_13_L6 NF m l v f = xmCh NF (gsX_X6_expression_14 NF) (nI 0) 1600 m l v f := by
  intro m
  induction m with
  | zero => intro l v f; rfl
  | succ m ih =>
    intro l v f
    simp only [gsX_X6_expression_13_L6, xmCh, ih]
    all_goals rfl
theorem e_2_0 : gsX_X6_expression_13 NF = xmLv NF (gsX_X6_expression_14 NF) (nI 0) 1600 := by
  funext v f
  unfold gsX_X6_expression_13 xmLv
  simp only [el_2_0]
theorem u_1 : gsX_X6_unit_2 NF = xmUn NF (xmBra NF (gsX_X6_expression_13 NF)) := by
  have h : gsX_X6_unit_2 NF = xmUn NF (xmBra NF (fun v f => stk NF ((gsX_X6_expression_13 NF) v f))) := rfl
  rw [h, stkF]
theorem ng_1 : gsX_X6_negation_7 NF = xmNeg NF (gsX_X6_expression_15 NF) := by
  have h : gsX_X6_negation_7 NF = xmNeg NF (fun v f => stk NF ((gsX_X6_expression_15 NF) v f)) := rfl
  rw [h, stkF]
theorem e_1_5 : (gsX_X6_expression_12 NF) = fun v f => xmB (gsX_X6_unit_2 NF v f) := rfl
theorem el_1_4 : ∀ (m : Nat) (l : Int32) (v : Nat → Int32) (f : Nat → Nat → Int32), gsX_X6_expression_11_L6 NF m l v f = xmCh NF (gsX_X6_expression_12 NF) (nI 4) 1600 m l v f := by
  intro m
  induction m with
  | zero => intro l v f; rfl
  | succ m ih =>
    intro l v f
    simp only [gsX_X6_expression_11_L6, xmCh, ih]
    all_goals rfl
theorem e_1_4 : gsX_X6_expression_11 NF = xmLv NF (gsX_X6_expression_12 NF) (nI 4) 1600 := by
  funext v f
  unfold gsX_X6_expression_11 xmLv
  simp only [el_1_4]
theorem el_1_3 : ∀ (m : Nat) (l : Int32) (v : Nat → Int32) (f : Nat → Nat → Int32), gsX_X6_expression_10_L6 NF m l v f = xmCh NF (gsX_X6_expression_11 NF) (nI 3) 1600 m l v f := by
  intro m
  induction m with
  | zero => intro l v f; rfl
  | succ m ih =>
    intro l v f
    simp only [gsX_X6_expression_10_L6, xmCh, ih]
    all_goals rfl
theorem e_1_3 : gsX_X6_expression_10 NF = xmLv NF (gsX_X6_expression_11 NF) (nI 3) 1600 := by
  funext v f
  unfold gsX_X6_expression_10 xmLv
  simp only [el_1_3]
theorem el_1_2 : ∀ (m : Nat) (l : Int32) (v : Nat → Int32) (f : Nat → Nat → Int32), gsX_X6_expression_9_L7 NF m l v f = xmCh NF (gsX_X6_expression_10 NF) (nI 2) 1 m l v f := by
  intro m
  induction m with
  | zero => intro l v f; rfl
  | succ m ih =>
    intro l v f
    simp only [gsX_X6_expression_9_L7, xmCh, ih]
    all_goals rfl
theorem e_1_2 : gsX_X6_expression_9 NF = xmOne NF (gsX_X6_negation_7 NF) (gsX_X6_expression_10 NF) := by
  funext v f
  unfold gsX_X6_expression_9 xmOne xmLv xmB
  simp only [el_1_2]
  all_goals rfl
theorem el_1_1 : ∀ (m : Nat) (l : Int32) (v : Nat → Int32) (f : Nat → Nat → Int32), gsX_X6_expression_8_L6 NF m l v f = xmCh NF (gsX_X6_expression_9 NF) (nI 1) 1600 m l v f := by
  intro m
  induction m with
  | zero => intro l v f; rfl
  | succ m ih =>
    intro l v f
    simp only [gsX_X6_expression_8_L6, xmCh, ih]
    all_goals rfl
theorem e_1_1 : gsX_X6_expression_8 NF = xmLv NF (gsX_X6_expression_9 NF) (nI 1) 1600 := by
  funext v f
  unfold gsX_X6_expression_8 xmLv
  simp only [el_1_1]
theorem el_1_0 : ∀ (m : Nat) (l : Int32) (v : Nat → Int32) (f : Nat → Nat → Int32), gsX_X6_expression_7_L6 NF m l v f = xmCh NF (gsX_X6_expression_8 NF) (nI 0) 1600 m l v f := by
  intro m
  induction m with
  | zero => intro l v f; rfl
  | succ m ih =>
    intro l v f
    simp only [gsX_X6_expression_7_L6, xmCh, ih]
    all_goals rfl
theorem e_1_0 : gsX_X6_expression_7 NF = xmLv NF (gsX_X6_expression_8 NF) (nI 0) 1600 := by
  funext v f
  unfold gsX_X6_expression_7 xmLv
  simp only [el_1_0]
theorem u_0 : gsX_X6_unit_1 NF = xmUn NF (xmBra NF (gsX_X6_expression_7 NF)) := by
  have h : gsX_X6_unit_1 NF = xmUn NF (xmBra NF (fun v f => stk NF ((gsX_X6_expression_7 NF) v f))) := rfl
  rw [h, stkF]
theorem ng_0 : gsX_X6_negation_8 NF = xmNeg NF (gsX_X6_expression_9 NF) := by
  have h : gsX_X6_negation_8 NF = xmNeg NF (fun v f => stk NF ((gsX_X6_expression_9 NF) v f)) := rfl
  rw [h, stkF]
theorem e_0_5 : (gsX_X6_expression_6 NF) = fun v f => xmB (gsX_X6_unit_1 NF v f) := rfl
theorem el_0_4 : ∀ (m : Nat) (l : Int32) (v : Nat → Int32) (f : Nat → Nat → Int32), gsX_X6_expression_5_L6 NF m l v f = xmCh NF (gsX_X6_expression_6 NF) (nI 4) 1600 m l v f := by
  intro m
  induction m with
  | zero => intro l v f; rfl
  | succ m ih =>
    intro l v f
    simp only [gsX_X6_expression_5_L6, xmCh, ih]
    all_goals rfl
theorem e_0_4 : gsX_X6_expression_5 NF = xmLv NF (gsX_X6_expression_6 NF) (nI 4) 1600 := by
  funext v f
  unfold gsX_X6_expression_5 xmLv
  simp only [el_0_4]
theorem el_0_3 : ∀ (m : Nat) (l : Int32) (v : Nat → Int32) (f : Nat → Nat → Int32), gsX_X6_expression_4_L6 NF m l v f = xmCh NF (gsX_X6_expression_5 NF) (nI 3) 1600 m l v f := by
  intro m
  induction m with
  | zero => intro l v f; rfl
  | succ m ih =>
    intro l v f
    simp only [gsX_X6_expression_4_L6, xmCh, ih]
    all_goals rfl
theorem e_0_3 : gsX_X6_expression_4 NF = xmLv NF (gsX_X6_expression_5 NF) (nI 3) 1600 := by
  funext v f
  unfold gsX_X6_expression_4 xmLv
  simp only [el_0_3]
theorem el_0_2 : ∀ (m : Nat) (l : Int32) (v : Nat → Int32) (f : Nat → Nat → Int32), gsX_X6_expression_3_L7 NF m l v f = xmCh NF (gsX_X6_expression_4 NF) (nI 2) 1 m l v f := by
  intro m
  induction m with
  | zero => intro l v f; rfl
  | succ m ih =>
    intro l v f
    simp only [gsX_X6_expression_3_L7, xmCh, ih]
    all_goals rfl
theorem e_0_2 : gsX_X6_expression_3 NF = xmOne NF (gsX_X6_negation_8 NF) (gsX_X6_expression_4 NF) := by
  funext v f
  unfold gsX_X6_expression_3 xmOne xmLv xmB
  simp only [el_0_2]
  all_goals rfl
theorem el_0_1 : ∀ (m : Nat) (l : Int32) (v : Nat → Int32) (f : Nat → Nat → Int32), gsX_X6_expression_2_L6 NF m l v f = xmCh NF (gsX_X6_expression_3 NF) (nI 1) 1600 m l v f := by
  intro m
  induction m with
  | zero => intro l v f; rfl
  | succ m ih =>
    intro l v f
    simp only [gsX_X6_expression_2_L6, xmCh, ih]
    all_goals rfl
theorem e_0_1 : gsX_X6_expression_2 NF = xmLv NF (gsX_X6_expression_3 NF) (nI 1) 1600 := by
  funext v f
  unfold gsX_X6_expression_2 xmLv
  simp only [el_0_1]
theorem el_0_0 : ∀ (m : Nat) (l : Int32) (v : Nat → Int32) (f : Nat → Nat → Int32), gsX_X6_expression_1_L6 NF m l v f = xmCh NF (gsX_X6_expression_2 NF) (nI 0) 1600 m l v f := by
  intro m
  induction m with
  | zero => intro l v f; rfl
  | succ m ih =>
    intro l v f
    simp only [gsX_X6_expression_1_L6, xmCh, ih]
    all_goals rfl
theorem e_0_0 : gsX_X6_expression_1 NF = xmLv NF (gsX_X6_expression_2 NF) (nI 0) 1600 := by
  funext v f
  unfold gsX_X6_expression_1 xmLv
  simp only [el_0_0]
section
variable {c : Nat → Nat} {n : Nat} {v0 : Nat → Int32} {f0 : Nat → Nat → Int32}
theorem s_7 (T : TX c n v0 f0) (hc : ∀ k, k < n → c k < 256) : SIM c n v0 f0 7 0 (gsX_X6_expression_43 NF) ∧ SIM c n v0 f0 7 2 (gsX_X6_expression_45 NF) := by
  have h5 : SIM c n v0 f0 7 5 (gsX_X6_expression_48 NF) := by rw [e_7_5, u_7]; exact SIMb (simUn T hc (by decide) (simBr7 hc))
  have h4 : SIM c n v0 f0 7 4 (gsX_X6_expression_47 NF) := by rw [e_7_4]; exact simLv T hc (by decide) (by decide) (by decide) h5
  have h3 : SIM c n v0 f0 7 3 (gsX_X6_expression_46 NF) := by rw [e_7_3]; exact simLv T hc (by decide) (by decide) (by decide) h4
  have h2 : SIM c n v0 f0 7 2 (gsX_X6_expression_45 NF) := by rw [e_7_2, ng_7]; exact simOne T hc h3 (fun v f i out st own hx hd hm h ho hb => Or.inr (simNeg7 hc hx hd hm h))
  have h1 : SIM c n v0 f0 7 1 (gsX_X6_expression_44 NF) := by rw [e_7_1]; exact simLv T hc (by decide) (by decide) (by decide) h2
  exact ⟨by rw [e_7_0]; exact simLv T hc (by decide) (by decide) (by decide) h1, h2⟩
theorem s_6 (T : TX c n v0 f0) (hc : ∀ k, k < n → c k < 256) (h0 : SIM c n v0 f0 7 0 (gsX_X6_expression_43 NF)) (h2 : SIM c n v0 f0 7 2 (gsX_X6_expression_45 NF)) : SIM c n v0 f0 6 0 (gsX_X6_expression_37 NF) ∧ SIM c n v0 f0 6 2 (gsX_X6_expression_39 NF) := by
  have h5 : SIM c n v0 f0 6 5 (gsX_X6_expression_42 NF) := by rw [e_6_5, u_6]; exact SIMb (simUn T hc (by decide) (simBra T hc (by decide) h0))
  have h4 : SIM c n v0 f0 6 4 (gsX_X6_expression_41 NF) := by rw [e_6_4]; exact simLv T hc (by decide) (by decide) (by decide) h5
  have h3 : SIM c n v0 f0 6 3 (gsX_X6_expression_40 NF) := by rw [e_6_3]; exact simLv T hc (by decide) (by decide) (by decide) h4
  have h2n : SIM c n v0 f0 6 2 (gsX_X6_expression_39 NF) := by rw [e_6_2, ng_6]; exact simOne T hc h3 (fun v f i out st own hx hd hm h ho hb => simNeg T hc (by decide) h2 hx hd hm h ho hb)
  have h1 : SIM c n v0 f0 6 1 (gsX_X6_expression_38 NF) := by rw [e_6_1]; exact simLv T hc (by decide) (by decide) (by decide) h2n
  exact ⟨by rw [e_6_0]; exact simLv T hc (by decide) (by decide) (by decide) h1, h2n⟩
theorem s_5 (T : TX c n v0 f0) (hc : ∀ k, k < n → c k < 256) (h0 : SIM c n v0 f0 6 0 (gsX_X6_expression_37 NF)) (h2 : SIM c n v0 f0 6 2 (gsX_X6_expression_39 NF)) : SIM c n v0 f0 5 0 (gsX_X6_expression_31 NF) ∧ SIM c n v0 f0 5 2 (gsX_X6_expression_33 NF) := by
  have h5 : SIM c n v0 f0 5 5 (gsX_X6_expression_36 NF) := by rw [e_5_5, u_5]; exact SIMb (simUn T hc (by decide) (simBra T hc (by decide) h0))
  have h4 : SIM c n v0 f0 5 4 (gsX_X6_expression_35 NF) := by rw [e_5_4]; exact simLv T hc (by decide) (by decide) (by decide) h5
  have h3 : SIM c n v0 f0 5 3 (gsX_X6_expression_34 NF) := by rw [e_5_3]; exact simLv T hc (by decide) (by decide) (by decide) h4
  have h2n : SIM c n v0 f0 5 2 (gsX_X6_expression_33 NF) := by rw [e_5_2, ng_5]; exact simOne T hc h3 (fun v f i out st own hx hd hm h ho hb => simNeg T hc (by decide) h2 hx hd hm h ho hb)
  have h1 : SIM c n v0 f0 5 1 (gsX_X6_expression_32 NF) := by rw [e_5_1]; exact simLv T hc (by decide) (by decide) (by decide) h2n
  exact ⟨by rw [e_5_0]; exact simLv T hc (by decide) (by decide) (by decide) h1, h2n⟩
theorem s_4 (T : TX c n v0 f0) (hc : ∀ k, k < n → c k < 256) (h0 : SIM c n v0 f0 5 0 (gsX_X6_expression_31 NF)) (h2 : SIM c n v0 f0 5 2 (gsX_X6_expression_33 NF)) : SIM c n v0 f0 4 0 (gsX_X6_expression_25 NF) ∧ SIM c n v0 f0 4 2 (gsX_X6_expression_27 NF) := by
  have h5 : SIM c n v0 f0 4 5 (gsX_X6_expression_30 NF) := by rw [e_4_5, u_4]; exact SIMb (simUn T hc (by decide) (simBra T hc (by decide) h0))
  have h4 : SIM c n v0 f0 4 4 (gsX_X6_expression_29 NF) := by rw [e_4_4]; exact simLv T hc (by decide) (by decide) (by decide) h5
  have h3 : SIM c n v0 f0 4 3 (gsX_X6_expression_28 NF) := by rw [e_4_3]; exact simLv T hc (by decide) (by decide) (by decide) h4
  have h2n : SIM c n v0 f0 4 2 (gsX_X6_expression_27 NF) := by rw [e_4_2, ng_4]; exact simOne T hc h3 (fun v f i out st own hx hd hm h ho hb => simNeg T hc (by decide) h2 hx hd hm h ho hb)
  have h1 : SIM c n v0 f0 4 1 (gsX_X6_expression_26 NF) := by rw [e_4_1]; exact simLv T hc (by decide) (by decide) (by decide) h2n
  exact ⟨by rw [e_4_0]; exact simLv T hc (by decide) (by decide) (by decide) h1, h2n⟩
theorem s_3 (T : TX c n v0 f0) (hc : ∀ k, k < n → c k < 256) (h0 : SIM c n v0 f0 4 0 (gsX_X6_expression_25 NF)) (h2 : SIM c n v0 f0 4 2 (gsX_X6_expression_27 NF)) : SIM c n v0 f0 3 0 (gsX_X6_expression_19 NF) ∧ SIM c n v0 f0 3 2 (gsX_X6_expression_21 NF) := by
  have h5 : SIM c n v0 f0 3 5 (gsX_X6_expression_24 NF) := by rw [e_3_5, u_3]; exact SIMb (simUn T hc (by decide) (simBra T hc (by decide) h0))
  have h4 : SIM c n v0 f0 3 4 (gsX_X6_expression_23 NF) := by rw [e_3_4]; exact simLv T hc (by decide) (by decide) (by decide) h5
  have h3 : SIM c n v0 f0 3 3 (gsX_X6_expression_22 NF) := by rw [e_3_3]; exact simLv T hc (by decide) (by decide) (by decide) h4
  have h2n : SIM c n v0 f0 3 2 (gsX_X6_expression_21 NF) := by rw [e_3_2, ng_3]; exact simOne T hc h3 (fun v f i out st own hx hd hm h ho hb => simNeg T hc (by decide) h2 hx hd hm h ho hb)
  have h1 : SIM c n v0 f0 3 1 (gsX_X6_expression_20 NF) := by rw [e_3_1]; exact simLv T hc (by decide) (by decide) (by decide) h2n
  exact ⟨by rw [e_3_0]; exact simLv T hc (by decide) (by decide) (by decide) h1, h2n⟩
theorem s_2 (T : TX c n v0 f0) (hc : ∀ k, k < n → c k < 256) (h0 : SIM c n v0 f0 3 0 (gsX_X6_expression_19 NF)) (h2 : SIM c n v0 f0 3 2 (gsX_X6_expression_21 NF)) : SIM c n v0 f0 2 0 (gsX_X6_expression_13 NF) ∧ SIM c n v0 f0 2 2 (gsX_X6_expression_15 NF) := by
  have h5 : SIM c n v0 f0 2 5 (gsX_X6_expression_18 NF) := by rw [e_2_5, u_2]; exact SIMb (simUn T hc (by decide) (simBra T hc (by decide) h0))
  have h4 : SIM c n v0 f0 2 4 (gsX_X6_expression_17 NF) := by rw [e_2_4]; exact simLv T hc (by decide) (by decide) (by decide) h5
  have h3 : SIM c n v0 f0 2 3 (gsX_X6_expression_16 NF) := by rw [e_2_3]; exact simLv T hc (by decide) (by decide) (by decide) h4
  have h2n : SIM c n v0 f0 2 2 (gsX_X6_expression_15 NF) := by rw [e_2_2, ng_2]; exact simOne T hc h3 (fun v f i out st own hx hd hm h ho hb => simNeg T hc (by decide) h2 hx hd hm h ho hb)
  have h1 : SIM c n v0 f0 2 1 (gsX_X6_expression_14 NF) := by rw [e_2_1]; exact simLv T hc (by decide) (by decide) (by decide) h2n
  exact ⟨by rw [e_2_0]; exact simLv T hc (by decide) (by decide) (by decide) h1, h2n⟩
theorem s_1 (T : TX c n v0 f0) (hc : ∀ k, k < n → c k < 256) (h0 : SIM c n v0 f0 2 0 (gsX_X6_expression_13 NF)) (h2 : SIM c n v0 f0 2 2 (gsX_X6_expression_15 NF)) : SIM c n v0 f0 1 0 (gsX_X6_expression_7 NF) ∧ SIM c n v0 f0 1 2 (gsX_X6_expression_9 NF) := by
  have h5 : SIM c n v0 f0 1 5 (gsX_X6_expression_12 NF) := by rw [e_1_5, u_1]; exact SIMb (simUn T hc (by decide) (simBra T hc (by decide) h0))
  have h4 : SIM c n v0 f0 1 4 (gsX_X6_expression_11 NF) := by rw [e_1_4]; exact simLv T hc (by decide) (by decide) (by decide) h5
  have h3 : SIM c n v0 f0 1 3 (gsX_X6_expression_10 NF) := by rw [e_1_3]; exact simLv T hc (by decide) (by decide) (by decide) h4
  have h2n : SIM c n v0 f0 1 2 (gsX_X6_expression_9 NF) := by rw [e_1_2, ng_1]; exact simOne T hc h3 (fun v f i out st own hx hd hm h ho hb => simNeg T hc (by decide) h2 hx hd hm h ho hb)
  have h1 : SIM c n v0 f0 1 1 (gsX_X6_expression_8 NF) := by rw [e_1_1]; exact simLv T hc (by decide) (by decide) (by decide) h2n
  exact ⟨by rw [e_1_0]; exact simLv T hc (by decide) (by decide) (by decide) h1, h2n⟩
theorem s_0 (T : TX c n v0 f0) (hc : ∀ k, k < n → c k < 256) (h0 : SIM c n v0 f0 1 0 (gsX_X6_expression_7 NF)) (h2 : SIM c n v0 f0 1 2 (gsX_X6_expression_9 NF)) : SIM c n v0 f0 0 0 (gsX_X6_expression_1 NF) ∧ SIM c n v0 f0 0 2 (gsX_X6_expression_3 NF) := by
  have h5 : SIM c n v0 f0 0 5 (gsX_X6_expression_6 NF) := by rw [e_0_5, u_0]; exact SIMb (simUn T hc (by decide) (simBra T hc (by decide) h0))
  have h4 : SIM c n v0 f0 0 4 (gsX_X6_expression_5 NF) := by rw [e_0_4]; exact simLv T hc (by decide) (by decide) (by decide) h5
  have h3 : SIM c n v0 f0 0 3 (gsX_X6_expression_4 NF) := by rw [e_0_3]; exact simLv T hc (by decide) (by decide) (by decide) h4
  have h2n : SIM c n v0 f0 0 2 (gsX_X6_expression_3 NF) := by rw [e_0_2, ng_0]; exact simOne T hc h3 (fun v f i out st own hx hd hm h ho hb => simNeg T hc (by decide) h2 hx hd hm h ho hb)
  have h1 : SIM c n v0 f0 0 1 (gsX_X6_expression_2 NF) := by rw [e_0_1]; exact simLv T hc (by decide) (by decide) (by decide) h2n
  exact ⟨by rw [e_0_0]; exact simLv T hc (by decide) (by decide) (by decide) h1, h2n⟩
theorem s_all0 (T : TX c n v0 f0) (hc : ∀ k, k < n → c k < 256) : SIM c n v0 f0 0 0 (gsX_X6_expression_1 NF) := by
  have a7 := s_7 (NF := NF) T hc
  have a6 := s_6 (NF := NF) T hc a7.1 a7.2
  have a5 := s_5 (NF := NF) T hc a6.1 a6.2
  have a4 := s_4 (NF := NF) T hc a5.1 a5.2
  have a3 := s_3 (NF := NF) T hc a4.1 a4.2
  have a2 := s_2 (NF := NF) T hc a3.1 a3.2
  have a1 := s_1 (NF := NF) T hc a2.1 a2.2
  have a0 := s_0 (NF := NF) T hc a1.1 a1.2
  exact a0.1
end
end
