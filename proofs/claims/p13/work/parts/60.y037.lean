set_option maxHeartbeats 4000000 in
set_option maxRecDepth 100000 in
theorem sY_X11_members_1 (l : Launch) (dC : Nat → ClassId) (dI : Nat → Nat → Nat) (cy : Nat → ClassId) (y0 : Nat) (r : Nat → Nat) (p0 : Int32) (v : Nat → Int32) (f : Nat → Nat → Int32) (w : Int64) (g : Nat → Int64) (hIv : YI v) (hCf : YC f) (hRf : progOK (f 4) (f 5) (v 9).toInt.toNat)  : ctI l (dC, dI) cy yX11_members cX11_members 3 .int 1 60 0 0 Unit [.int p0] (YW cy y0 r v f w g) (fun r u => True) (fun u => YW cy y0 r v f w g) := by
  refine ctI_of (by decide) (Nat.le_of_ble_eq_true rfl) (fun p e s m below meth c A ls Q hx hb hml hts hown hE hP hD hA hl ret => ?_)
  have hUv : (v 35).toInt + (v 36).toInt ≤ 40 := hIv.2
  have hown : s.vm.findClass RX11 = some m.cls := hown
  have hS : va_S A s.heap s.heap [] := va_S.rf
  have hl : lv_has ls 3 [(0, .int p0)] := hl
  refine lv_iconst (v := 0) hx hb dX11_members_0 (by decide) ?_
  refine lv_istore_n (lv' := [(1, .int 0), (0, .int p0)]) hx hb dX11_members_1 rfl hl (by decide) rfl (fun ls hl => ?_)
  refine lv_iconst (v := 0) hx hb dX11_members_2 (by decide) ?_
  refine lv_istore_n (lv' := [(2, .int 0), (1, .int 0), (0, .int p0)]) hx hb dX11_members_3 rfl hl (by decide) rfl (fun ls hl => ?_)
  have lp1 : ∀ (n1 : Nat) (l1_1 : Int32) (l2_1 : Int32), ((0 : Int) ≤ l2_1.toInt ∧ l2_1.toInt ≤ 2147483647) → (2147483647 - l2_1.toInt).toNat < n1 → ∀ (H : Heap) (locs : List Loc) (ls : Array Slot), va_P (dC, dI) vwCl (YW cy y0 r v f w g) H → va_D A (YW cy y0 r v f w g) → va_S A s.heap H locs → lv_has ls 3 [(2, .int l2_1), (1, .int l1_1), (0, .int p0)] → W p l e { frames := 1, cells := 0, slots := 0, locals := 60 } s m ([.int p0] : List Value).toArray below meth c H locs 0 0 Q (F0 m 4 ls []) := by
    intro n1
    induction n1 with
    | zero => intro l1_1 l2_1 hr2_1 hm; exact absurd hm (Nat.not_lt_zero _)
    | succ n1 ih1 =>
      intro l1_1 l2_1 hr2_1 hm1 H locs ls hP hD hS hl
      refine lv_iload_n hx hb dX11_members_4 rfl (lv_at hl 0 rfl) ?_
      refine lv_bipush (v := 6) hx hb dX11_members_5 (by decide) ?_
      refine lv_icmp_ge (tgt := 24) hx hb dX11_members_7 (by decide) (fun c2 => ?_) (fun c2 => ?_)
      · skip
        have zc2 : 6 ≤ l2_1.toInt := by rw [fa_le, show (6 : Int32).toInt = 6 from by decide] at c2; exact c2
        refine lv_iload_n hx hb dX11_members_24 rfl (lv_at hl 1 rfl) ?_
        exact ret l1_1 () _ _ _ _ _ _ rfl trivial hP hD hS dX11_members_25 (Nat.le_refl _) (Nat.le_refl _)
      · skip
        have zc2 : ¬ (6 ≤ l2_1.toInt) := by rw [fa_le, show (6 : Int32).toInt = 6 from by decide] at c2; exact c2
        refine lv_iload_n hx hb dX11_members_10 rfl (lv_at hl 1 rfl) ?_
        refine lv_iload_n hx hb dX11_members_11 rfl (lv_at hl 2 rfl) ?_
        refine lv_iload_n hx hb dX11_members_12 rfl (lv_at hl 0 rfl) ?_
        refine lv_ishr hx hb dX11_members_13 ?_
        refine lv_topi (fun t3 et3 => ?_)
        refine lv_iconst (v := 1) hx hb dX11_members_14 (by decide) ?_
        refine lv_iand hx hb dX11_members_15 ?_
        refine lv_topi (fun t4 et4 => ?_)
        have zt4 : 0 ≤ t4.toInt ∧ t4.toInt < 2 := by rw [et4]; exact and_rng _ (k := 1) (by decide) (by decide)
        refine lv_iadd hx hb dX11_members_16 ?_
        refine lv_topi (fun t5 et5 => ?_)
        refine lv_istore_n (lv' := [(1, .int t5), (2, .int l2_1), (0, .int p0)]) hx hb dX11_members_17 rfl hl (by decide) rfl (fun ls hl => ?_)
        obtain ⟨t6, et6⟩ : ∃ y : Int32, y = l2_1 + 1 := ⟨_, rfl⟩
        have rg7 := fb_rng l2_1
        have zt6 : t6.toInt = l2_1.toInt + 1 := by rw [et6]; exact add_i rfl (by decide) (by omega) (by omega)
        refine lv_iinc (v := t6) (lv' := [(2, .int t6), (1, .int t5), (0, .int p0)]) hx hb dX11_members_18 hl (k := 1) rfl (by rw [et6]; rfl) (by decide) rfl (fun ls hl => ?_)
        refine lv_goto (tgt := 4) hx hb dX11_members_21 (by decide) ?_
        have rg8 := fb_rng t6
        exact ih1 t5 t6 ⟨show (0 : Int) ≤ t6.toInt by omega, show t6.toInt ≤ (2147483647 : Int) by omega⟩ (by show (2147483647 - t6.toInt).toNat < n1; omega) _ _ _ hP hD hS (lv_sub hl [0, 1, 2] rfl)
  exact lp1 _ 0 0 ⟨by decide, by decide⟩ (Nat.lt_succ_self _) _ _ _ hP hD hS (lv_sub hl [0, 1, 2] rfl)
