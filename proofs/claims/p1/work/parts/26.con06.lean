theorem pt_X11_dress_296 (p1 : Int32) (c1 : 0 ≤ p1 ∧ p1 ≤ 1) (c1 : 0 ≤ p1 ∧ p1 ≤ 1) (c2 : ¬ p1 = 0) : (0 : Int32) = F_dress p1 := by
  unfold F_dress
  (repeat' split)
  all_goals first | rfl | assumption | (exfalso; simp only [fa_lt, fa_le, fa_eq, tl_m1, tl_0, tl_1] at *; omega) | (simp only [fa_lt, fa_le, fa_eq, tl_m1, tl_0, tl_1] at *; omega)
theorem pt_X11_dress_297 (p1 : Int32) (c1 : 0 ≤ p1 ∧ p1 ≤ 1) (c1 : 0 ≤ p1 ∧ p1 ≤ 1) (c2 : p1 = 0) : (0 : Int32) = F_dress p1 := by
  unfold F_dress
  (repeat' split)
  all_goals first | rfl | assumption | (exfalso; simp only [fa_lt, fa_le, fa_eq, tl_m1, tl_0, tl_1] at *; omega) | (simp only [fa_lt, fa_le, fa_eq, tl_m1, tl_0, tl_1] at *; omega)
theorem pt_X11_dress_298 (p1 : Int32) (c1 : ¬ (0 ≤ p1 ∧ p1 ≤ 1)) : ((-1) : Int32) = F_dress p1 := by
  unfold F_dress
  (repeat' split)
  all_goals first | rfl | assumption | (exfalso; simp only [fa_lt, fa_le, fa_eq, tl_m1, tl_0, tl_1] at *; omega) | (simp only [fa_lt, fa_le, fa_eq, tl_m1, tl_0, tl_1] at *; omega)
set_option maxHeartbeats 4000000 in
set_option maxRecDepth 100000 in
theorem cnX11_dress_1 (l : Launch) (dC : Nat → ClassId) (dI : Nat → Nat → Nat) (cy : Nat → ClassId) (h0 : Nat) (r : Nat → Nat) (p1 : Int32) : ctI l (dC, dI) cy yX11_dress cX11_dress 7 .int 3 103 0 0 Unit [.ref h0, .int p1] [(h0, .inr (11, mFs r mv0)), ((r 59), .inl (cy 1, 39, .inl zF)), ((r 60), .inl (cy 1, 39, .inl zF))] (fun r _ => r = F_dress p1) (fun u => []) := by
  refine ctI_of (by decide) (Nat.le_of_ble_eq_true rfl) (fun p e s m below meth c A ls Q hx hb hml hts hown hE hP hD hA hl ret => ?_)
  have hown : s.vm.findClass RX11 = some m.cls := hown
  have hS : va_S A s.heap s.heap [] := va_S.rf
  have hl : lv_has ls 7 [(0, .ref h0), (1, .int p1)] := hl
  refine lv_iload_n hx hb dX11_dress_0 rfl (lv_at hl 1 rfl) ?_
  refine lv_iconst (v := 0) hx hb dX11_dress_1 (by decide) ?_
  refine lv_iconst (v := 1) hx hb dX11_dress_2 (by decide) ?_
  by_cases c1 : (0 ≤ p1 ∧ p1 ≤ 1)
  · skip
    refine caSi (n := 3) (wr := [(h0, .inr (11, mFs r mv0)), ((r 59), .inl (cy 1, 39, .inl zF)), ((r 60), .inl (cy 1, 39, .inl zF))]) (rest := []) hx hb hml hown hts hE hP hD hS hA (cnX11_isIn_2 l dC dI cy p1 c1) k_1736 k_1737 k_114 k_1738 (by decide +kernel) ⟨Nat.le_of_ble_eq_true rfl, Nat.le_of_ble_eq_true rfl⟩ [] [0, 1, 2] rfl rfl rfl (by decide) (by decide) (by decide) rfl hl.1 rfl (Nat.le_of_ble_eq_true rfl) dX11_dress_3 ⟨Nat.le_of_ble_eq_true rfl, Nat.le_of_ble_eq_true rfl⟩ (fun rr u H locs hw hP hD hS => ?_)
    have hP : va_P (dC, dI) vwCl [(h0, .inr (11, mFs r mv0)), ((r 59), .inl (cy 1, 39, .inl zF)), ((r 60), .inl (cy 1, 39, .inl zF))] H := hP
    have hD : va_D A [(h0, .inr (11, mFs r mv0)), ((r 59), .inl (cy 1, 39, .inl zF)), ((r 60), .inl (cy 1, 39, .inl zF))] := hD
    refine tI (y := 1) hw ?_
    refine lv_if_ne (tgt := 11) hx hb dX11_dress_6 (by decide) (fun _ => ?_) (fun c0 => absurd c0 (by decide))
    refine lv_aload_n hx hb dX11_dress_11 rfl (lv_at hl 0 rfl) ?_
    refine caVv (n := 0) (wr := []) (rest := []) hx hb hml hown hts hE hP hD hS hA (cnX11_layIlls_1 l dC dI cy h0 r) k_1873 k_1875 k_84 k_114 k_1876 (by decide +kernel) ⟨Nat.le_of_ble_eq_true rfl, Nat.le_of_ble_eq_true rfl⟩ [0, 1, 2] [] rfl rfl rfl (by decide) (by decide) (by decide) 0 11 rfl rfl rfl hl.1 rfl (Nat.le_of_ble_eq_true rfl) dX11_dress_12 ⟨Nat.le_of_ble_eq_true rfl, Nat.le_of_ble_eq_true rfl⟩ (fun u H locs hw hP hD hS => ?_)
    have hP : va_P (dC, dI) vwCl [(h0, .inr (11, mFs r mv0)), ((r 59), .inl (cy 1, 39, .inl zF)), ((r 60), .inl (cy 1, 39, .inl zF))] H := hP
    have hD : va_D A [(h0, .inr (11, mFs r mv0)), ((r 59), .inl (cy 1, 39, .inl zF)), ((r 60), .inl (cy 1, 39, .inl zF))] := hD
    refine lv_iconst (v := (-1)) hx hb dX11_dress_15 (by decide) ?_
    refine lv_istore_n (lv' := [(2, .int (-1)), (0, .ref h0), (1, .int p1)]) hx hb dX11_dress_16 rfl hl (by decide) rfl (fun ls hl => ?_)
    refine lv_iconst (v := 0) hx hb dX11_dress_17 (by decide) ?_
    refine lv_istore_n (lv' := [(3, .int 0), (2, .int (-1)), (0, .ref h0), (1, .int p1)]) hx hb dX11_dress_18 rfl hl (by decide) rfl (fun ls hl => ?_)
    refine lv_iconst (v := 0) hx hb dX11_dress_19 (by decide) ?_
    refine lv_istore (lv' := [(4, .int 0), (3, .int 0), (2, .int (-1)), (0, .ref h0), (1, .int p1)]) hx hb dX11_dress_20 hl (by decide) rfl (fun ls hl => ?_)
    refine lv_iload hx hb dX11_dress_22 (lv_at hl 0 rfl) ?_
    refine lv_aload_n hx hb dX11_dress_24 rfl (lv_at hl 3 rfl) ?_
    refine va_get (D := (dC, dI)) (ci := 11) (v := .int 0) (C := RX11) (T := TX11) (N := 79) hx hb hts inB_11 hown hE.1 hP 0 rfl rfl 49 (by decide) (hts _ k_1369) (fun _ h9 => h9) rfl dX11_dress_25 ?_
    refine lv_iconst (v := 1) hx hb dX11_dress_28 (by decide) ?_
    refine lv_iadd hx hb dX11_dress_29 ?_
    refine tI (y := 1) (by decide) ?_
    refine lv_aload_n hx hb dX11_dress_30 rfl (lv_at hl 3 rfl) ?_
    refine va_get (D := (dC, dI)) (ci := 11) (v := .int 0) (C := RX11) (T := TX11) (N := 79) hx hb hts inB_11 hown hE.1 hP 0 rfl rfl 48 (by decide) (hts _ k_1368) (fun _ h9 => h9) rfl dX11_dress_31 ?_
    refine caSi (n := 2) (wr := [(h0, .inr (11, mFs r mv0)), ((r 59), .inl (cy 1, 39, .inl zF)), ((r 60), .inl (cy 1, 39, .inl zF))]) (rest := [.int 0]) hx hb hml hown hts hE hP hD hS hA (cnX11_power_1 l dC dI cy ) k_1877 k_1878 k_114 k_1879 (by decide +kernel) ⟨Nat.le_of_ble_eq_true rfl, Nat.le_of_ble_eq_true rfl⟩ [] [0, 1, 2] rfl rfl rfl (by decide) (by decide) (by decide) rfl hl.1 rfl (Nat.le_of_ble_eq_true rfl) dX11_dress_34 ⟨Nat.le_of_ble_eq_true rfl, Nat.le_of_ble_eq_true rfl⟩ (fun rr u H locs hw hP hD hS => ?_)
    have hP : va_P (dC, dI) vwCl [(h0, .inr (11, mFs r mv0)), ((r 59), .inl (cy 1, 39, .inl zF)), ((r 60), .inl (cy 1, 39, .inl zF))] H := hP
    have hD : va_D A [(h0, .inr (11, mFs r mv0)), ((r 59), .inl (cy 1, 39, .inl zF)), ((r 60), .inl (cy 1, 39, .inl zF))] := hD
    refine tI (y := 1) hw ?_
    refine lv_icmp_ge (tgt := 122) hx hb dX11_dress_37 (by decide) (fun c0 => absurd c0 (by decide)) (fun _ => ?_)
    refine lv_aload_n hx hb dX11_dress_40 rfl (lv_at hl 3 rfl) ?_
    refine lv_iload hx hb dX11_dress_41 (lv_at hl 0 rfl) ?_
    refine caVi (n := 1) (wr := [((r 59), .inl (cy 1, 39, .inl zF)), ((r 60), .inl (cy 1, 39, .inl zF))]) (rest := []) hx hb hml hown hts hE hP hD hS hA (cnX11_layDress_1 l dC dI cy h0 r) k_1880 k_1882 k_85 k_114 k_1883 (by decide +kernel) ⟨Nat.le_of_ble_eq_true rfl, Nat.le_of_ble_eq_true rfl⟩ [0] [1, 2] rfl rfl rfl (by decide) (by decide) (by decide) 0 11 rfl rfl rfl hl.1 rfl (Nat.le_of_ble_eq_true rfl) dX11_dress_43 ⟨Nat.le_of_ble_eq_true rfl, Nat.le_of_ble_eq_true rfl⟩ (fun rr u H locs hw hP hD hS => ?_)
    have hP : va_P (dC, dI) vwCl [((r 59), .inl (cy 1, 39, .inl zF)), ((r 60), .inl (cy 1, 39, .inl zF)), (h0, .inr (11, mFs r mv0))] H := hP
    have hD : va_D A [((r 59), .inl (cy 1, 39, .inl zF)), ((r 60), .inl (cy 1, 39, .inl zF)), (h0, .inr (11, mFs r mv0))] := hD
    refine tI (y := 0) hw ?_
    refine lv_istore (lv' := [(5, .int 0), (4, .int 0), (3, .int 0), (2, .int (-1)), (0, .ref h0), (1, .int p1)]) hx hb dX11_dress_46 hl (by decide) rfl (fun ls hl => ?_)
    refine lv_iload hx hb dX11_dress_48 (lv_at hl 0 rfl) ?_
    refine lv_if_lt (tgt := 116) hx hb dX11_dress_50 (by decide) (fun c0 => absurd c0 (by decide)) (fun _ => ?_)
    refine lv_iload hx hb dX11_dress_53 (lv_at hl 0 rfl) ?_
    refine lv_iload_n hx hb dX11_dress_55 rfl (lv_at hl 3 rfl) ?_
    refine lv_icmp_lt (tgt := 116) hx hb dX11_dress_56 (by decide) (fun c0 => absurd c0 (by decide)) (fun _ => ?_)
    refine lv_iload hx hb dX11_dress_59 (lv_at hl 0 rfl) ?_
    refine lv_iload_n hx hb dX11_dress_61 rfl (lv_at hl 3 rfl) ?_
    refine lv_icmp_ne (tgt := 76) hx hb dX11_dress_62 (by decide) (fun _ => ?_) (fun c0 => absurd c0 (by decide))
    refine lv_iload hx hb dX11_dress_76 (lv_at hl 0 rfl) ?_
    refine lv_istore_n (lv' := [(2, .int 0), (5, .int 0), (4, .int 0), (3, .int 0), (0, .ref h0), (1, .int p1)]) hx hb dX11_dress_78 rfl hl (by decide) rfl (fun ls hl => ?_)
    refine lv_aload_n hx hb dX11_dress_79 rfl (lv_at hl 4 rfl) ?_
    refine caVi (n := 0) (wr := [((r 59), .inl (cy 1, 39, .inl zF)), ((r 60), .inl (cy 1, 39, .inl zF))]) (rest := []) hx hb hml hown hts hE hP hD hS hA (cnX11_illOfRow_1 l dC dI cy h0 r) k_1884 k_1886 k_86 k_114 k_1887 (by decide +kernel) ⟨Nat.le_of_ble_eq_true rfl, Nat.le_of_ble_eq_true rfl⟩ [2] [0, 1] rfl rfl rfl (by decide) (by decide) (by decide) 0 11 rfl rfl rfl hl.1 rfl (Nat.le_of_ble_eq_true rfl) dX11_dress_80 ⟨Nat.le_of_ble_eq_true rfl, Nat.le_of_ble_eq_true rfl⟩ (fun rr u H locs hw hP hD hS => ?_)
    have hP : va_P (dC, dI) vwCl [((r 59), .inl (cy 1, 39, .inl zF)), ((r 60), .inl (cy 1, 39, .inl zF)), (h0, .inr (11, mFs r mv0))] H := hP
    have hD : va_D A [((r 59), .inl (cy 1, 39, .inl zF)), ((r 60), .inl (cy 1, 39, .inl zF)), (h0, .inr (11, mFs r mv0))] := hD
    refine tI (y := 0) hw ?_
    refine lv_istore_n (lv' := [(3, .int 0), (2, .int 0), (5, .int 0), (4, .int 0), (0, .ref h0), (1, .int p1)]) hx hb dX11_dress_83 rfl hl (by decide) rfl (fun ls hl => ?_)
    refine lv_iconst (v := 0) hx hb dX11_dress_84 (by decide) ?_
    refine lv_istore (lv' := [(6, .int 0), (3, .int 0), (2, .int 0), (5, .int 0), (4, .int 0), (0, .ref h0), (1, .int p1)]) hx hb dX11_dress_85 hl (by decide) rfl (fun ls hl => ?_)
    refine lv_iload hx hb dX11_dress_87 (lv_at hl 0 rfl) ?_
    refine lv_aload_n hx hb dX11_dress_89 rfl (lv_at hl 5 rfl) ?_
    refine va_get (D := (dC, dI)) (ci := 11) (v := .int 0) (C := RX11) (T := TX11) (N := 79) hx hb hts inB_11 hown hE.1 hP 2 rfl rfl 48 (by decide) (hts _ k_1368) (fun _ h9 => h9) rfl dX11_dress_90 ?_
    refine lv_icmp_ge (tgt := 116) hx hb dX11_dress_93 (by decide) (fun _ => ?_) (fun c0 => absurd (by decide) c0)
    refine lv_iinc (v := 1) (lv' := [(4, .int 1), (6, .int 0), (3, .int 0), (2, .int 0), (5, .int 0), (0, .ref h0), (1, .int p1)]) hx hb dX11_dress_116 hl (k := 4) rfl (by decide) (by decide) rfl (fun ls hl => ?_)
    refine lv_goto (tgt := 22) hx hb dX11_dress_119 (by decide) ?_
    refine lv_iload hx hb dX11_dress_22 (lv_at hl 0 rfl) ?_
    refine lv_aload_n hx hb dX11_dress_24 rfl (lv_at hl 5 rfl) ?_
    refine va_get (D := (dC, dI)) (ci := 11) (v := .int 0) (C := RX11) (T := TX11) (N := 79) hx hb hts inB_11 hown hE.1 hP 2 rfl rfl 49 (by decide) (hts _ k_1369) (fun _ h9 => h9) rfl dX11_dress_25 ?_
    refine lv_iconst (v := 1) hx hb dX11_dress_28 (by decide) ?_
    refine lv_iadd hx hb dX11_dress_29 ?_
    refine tI (y := 1) (by decide) ?_
    refine lv_aload_n hx hb dX11_dress_30 rfl (lv_at hl 5 rfl) ?_
    refine va_get (D := (dC, dI)) (ci := 11) (v := .int 0) (C := RX11) (T := TX11) (N := 79) hx hb hts inB_11 hown hE.1 hP 2 rfl rfl 48 (by decide) (hts _ k_1368) (fun _ h9 => h9) rfl dX11_dress_31 ?_
    refine caSi (n := 2) (wr := [((r 59), .inl (cy 1, 39, .inl zF)), ((r 60), .inl (cy 1, 39, .inl zF)), (h0, .inr (11, mFs r mv0))]) (rest := [.int 1]) hx hb hml hown hts hE hP hD hS hA (cnX11_power_1 l dC dI cy ) k_1877 k_1878 k_114 k_1879 (by decide +kernel) ⟨Nat.le_of_ble_eq_true rfl, Nat.le_of_ble_eq_true rfl⟩ [] [0, 1, 2] rfl rfl rfl (by decide) (by decide) (by decide) rfl hl.1 rfl (Nat.le_of_ble_eq_true rfl) dX11_dress_34 ⟨Nat.le_of_ble_eq_true rfl, Nat.le_of_ble_eq_true rfl⟩ (fun rr u H locs hw hP hD hS => ?_)
    have hP : va_P (dC, dI) vwCl [((r 59), .inl (cy 1, 39, .inl zF)), ((r 60), .inl (cy 1, 39, .inl zF)), (h0, .inr (11, mFs r mv0))] H := hP
    have hD : va_D A [((r 59), .inl (cy 1, 39, .inl zF)), ((r 60), .inl (cy 1, 39, .inl zF)), (h0, .inr (11, mFs r mv0))] := hD
    refine tI (y := 1) hw ?_
    refine lv_icmp_ge (tgt := 122) hx hb dX11_dress_37 (by decide) (fun _ => ?_) (fun c0 => absurd (by decide) c0)
    refine lv_aload_n hx hb dX11_dress_122 rfl (lv_at hl 5 rfl) ?_
    refine lv_aload_n hx hb dX11_dress_123 rfl (lv_at hl 5 rfl) ?_
    refine va_get (D := (dC, dI)) (ci := 11) (v := .int 0) (C := RX11) (T := TX11) (N := 79) hx hb hts inB_11 hown hE.1 hP 2 rfl rfl 48 (by decide) (hts _ k_1368) (fun _ h9 => h9) rfl dX11_dress_124 ?_
    refine va_put (D := (dC, dI)) (ci := 11) (v := .int 0) (ty := tyX11 67) (C := RX11) (T := TX11) (N := 79) hx hb hts inB_11 tyX11 tyX11_ok nmX11 hown hE.1 hP hD hS 2 rfl rfl 67 (by decide) (hts _ k_1387) (fun _ h9 => h9) rfl (tyX11_ok 67 (by decide)) rfl rfl (Nat.le_of_ble_eq_true rfl) dX11_dress_127 (fun H locs hP hD hS => ?_)
    have hP : va_P (dC, dI) vwCl [((r 59), .inl (cy 1, 39, .inl zF)), ((r 60), .inl (cy 1, 39, .inl zF)), (h0, .inr (11, mFs r mv0))] H := hP
    have hD : va_D A [((r 59), .inl (cy 1, 39, .inl zF)), ((r 60), .inl (cy 1, 39, .inl zF)), (h0, .inr (11, mFs r mv0))] := hD
    refine lv_iload_n hx hb dX11_dress_130 rfl (lv_at hl 6 rfl) ?_
    refine lv_if_ne (tgt := 138) hx hb dX11_dress_131 (by decide) (fun c2 => ?_) (fun c2 => ?_)
    · skip
      refine lv_iload_n hx hb dX11_dress_138 rfl (lv_at hl 2 rfl) ?_
      exact ret 0 () _ _ _ _ _ _ rfl (pt_X11_dress_296 p1 c1 c1 c2) (hP.sub [] rfl) (hD.sub [] (by decide) rfl) hS dX11_dress_139 (Nat.le_of_ble_eq_true rfl) (Nat.le_of_ble_eq_true rfl)
    · skip
      refine lv_iload_n hx hb dX11_dress_134 rfl (lv_at hl 3 rfl) ?_
      refine lv_goto (tgt := 139) hx hb dX11_dress_135 (by decide) ?_
      exact ret 0 () _ _ _ _ _ _ rfl (pt_X11_dress_297 p1 c1 c1 c2) (hP.sub [] rfl) (hD.sub [] (by decide) rfl) hS dX11_dress_139 (Nat.le_of_ble_eq_true rfl) (Nat.le_of_ble_eq_true rfl)
  · skip
    refine caSi (n := 3) (wr := [(h0, .inr (11, mFs r mv0)), ((r 59), .inl (cy 1, 39, .inl zF)), ((r 60), .inl (cy 1, 39, .inl zF))]) (rest := []) hx hb hml hown hts hE hP hD hS hA (cnX11_isIn_3 l dC dI cy p1 c1) k_1736 k_1737 k_114 k_1738 (by decide +kernel) ⟨Nat.le_of_ble_eq_true rfl, Nat.le_of_ble_eq_true rfl⟩ [] [0, 1, 2] rfl rfl rfl (by decide) (by decide) (by decide) rfl hl.1 rfl (Nat.le_of_ble_eq_true rfl) dX11_dress_3 ⟨Nat.le_of_ble_eq_true rfl, Nat.le_of_ble_eq_true rfl⟩ (fun rr u H locs hw hP hD hS => ?_)
    have hP : va_P (dC, dI) vwCl [(h0, .inr (11, mFs r mv0)), ((r 59), .inl (cy 1, 39, .inl zF)), ((r 60), .inl (cy 1, 39, .inl zF))] H := hP
    have hD : va_D A [(h0, .inr (11, mFs r mv0)), ((r 59), .inl (cy 1, 39, .inl zF)), ((r 60), .inl (cy 1, 39, .inl zF))] := hD
    refine tI (y := 0) hw ?_
    refine lv_if_ne (tgt := 11) hx hb dX11_dress_6 (by decide) (fun c0 => absurd (by decide) c0) (fun _ => ?_)
    refine lv_iconst (v := (-1)) hx hb dX11_dress_9 (by decide) ?_
    exact ret (-1) () _ _ _ _ _ _ rfl (pt_X11_dress_298 p1 c1) (hP.sub [] rfl) (hD.sub [] (by decide) rfl) hS dX11_dress_10 (Nat.le_of_ble_eq_true rfl) (Nat.le_of_ble_eq_true rfl)
theorem pt_X10_sewing_299 (p1 : Int32) (p2 : Int32) (p3 : Int32) : ((-100) : Int32) = F_sewing p1 p2 p3 := by
  unfold F_sewing
  (repeat' split)
  all_goals first | rfl | assumption | (exfalso; simp only [fa_lt, fa_le, fa_eq, tl_m100] at *; omega) | (simp only [fa_lt, fa_le, fa_eq, tl_m100] at *; omega)
set_option maxHeartbeats 4000000 in
set_option maxRecDepth 100000 in
theorem cnX10_sewing_1 (l : Launch) (dC : Nat → ClassId) (dI : Nat → Nat → Nat) (cy : Nat → ClassId) (h0 : Nat) (h1 : Nat) (b0 : Nat) (b1 : Nat) (b2 : Nat) (b3 : Nat) (b4 : Nat) (b5 : Nat) (b6 : Nat) (b7 : Nat) (b8 : Nat) (b9 : Nat) (b10 : Nat) (p1 : Int32) (p2 : Int32) (p3 : Int32) : ctI l (dC, dI) cy yX10_sewing cX10_sewing 4 .int 2 81 0 0 Unit [.ref h0, .int p1, .int p2, .int p3] [(h0, .inr (10, [.ref b0, .ref b1, .ref h1, .ref b2, .ref b3, .ref b4, .ref b5, .ref b6, .ref b7, .int 0])), (h1, .inr (7, [.ref b8, .ref b9, .ref b10, .int 0, .int 0, .int 10, .int 150, .int 2, .int 0, .int 0]))] (fun r _ => r = F_sewing p1 p2 p3) (fun u => []) := by
  refine ctI_of (by decide) (Nat.le_of_ble_eq_true rfl) (fun p e s m below meth c A ls Q hx hb hml hts hown hE hP hD hA hl ret => ?_)
  have hown : s.vm.findClass RX10 = some m.cls := hown
  have hS : va_S A s.heap s.heap [] := va_S.rf
  have hl : lv_has ls 4 [(0, .ref h0), (1, .int p1), (2, .int p2), (3, .int p3)] := hl
  refine lv_aload_n hx hb dX10_sewing_0 rfl (lv_at hl 0 rfl) ?_
  refine va_get (D := (dC, dI)) (ci := 10) (v := .ref h1) (C := RX10) (T := TX10) (N := 10) hx hb hts inB_10 hown hE.1 hP 0 rfl rfl 2 (by decide) (hts _ k_493) (fun _ h9 => h9) rfl dX10_sewing_1 ?_
  refine lv_iload_n hx hb dX10_sewing_4 rfl (lv_at hl 1 rfl) ?_
  refine caVi (n := 1) (wr := [(h0, .inr (10, [.ref b0, .ref b1, .ref h1, .ref b2, .ref b3, .ref b4, .ref b5, .ref b6, .ref b7, .int 0]))]) (rest := []) hx hb hml hown hts hE hP hD hS hA (cnX7_hasCoat_1 l dC dI cy h1 b8 b9 b10 p1) k_848 k_315 k_316 k_104 k_317 (by decide +kernel) ⟨Nat.le_of_ble_eq_true rfl, Nat.le_of_ble_eq_true rfl⟩ [1] [0] rfl rfl rfl (by decide) (by decide) (by decide) 0 7 rfl rfl rfl hl.1 rfl (Nat.le_of_ble_eq_true rfl) dX10_sewing_5 ⟨Nat.le_of_ble_eq_true rfl, Nat.le_of_ble_eq_true rfl⟩ (fun rr u H locs hw hP hD hS => ?_)
  have hP : va_P (dC, dI) vwCl [(h0, .inr (10, [.ref b0, .ref b1, .ref h1, .ref b2, .ref b3, .ref b4, .ref b5, .ref b6, .ref b7, .int 0])), (h1, .inr (7, [.ref b8, .ref b9, .ref b10, .int 0, .int 0, .int 10, .int 150, .int 2, .int 0, .int 0]))] H := hP
  have hD : va_D A [(h0, .inr (10, [.ref b0, .ref b1, .ref h1, .ref b2, .ref b3, .ref b4, .ref b5, .ref b6, .ref b7, .int 0])), (h1, .inr (7, [.ref b8, .ref b9, .ref b10, .int 0, .int 0, .int 10, .int 150, .int 2, .int 0, .int 0]))] := hD
  refine tI (y := 0) hw ?_
  refine lv_if_eq (tgt := 31) hx hb dX10_sewing_8 (by decide) (fun _ => ?_) (fun c0 => absurd (by decide) c0)
  refine lv_bipush (v := (-100)) hx hb dX10_sewing_31 (by decide) ?_
  exact ret (-100) () _ _ _ _ _ _ rfl (pt_X10_sewing_299 p1 p2 p3) (hP.sub [] rfl) (hD.sub [] (by decide) rfl) hS dX10_sewing_33 (Nat.le_of_ble_eq_true rfl) (Nat.le_of_ble_eq_true rfl)
theorem pt_X11_sewing_300 (p1 : Int32) (p2 : Int32) (p3 : Int32) : ((-100) : Int32) = F_sewing p1 p2 p3 := by
  unfold F_sewing
  (repeat' split)
  all_goals first | rfl | assumption | (exfalso; simp only [fa_lt, fa_le, fa_eq, tl_m100] at *; omega) | (simp only [fa_lt, fa_le, fa_eq, tl_m100] at *; omega)
set_option maxHeartbeats 4000000 in
set_option maxRecDepth 100000 in
theorem cnX11_sewing_1 (l : Launch) (dC : Nat → ClassId) (dI : Nat → Nat → Nat) (cy : Nat → ClassId) (h0 : Nat) (r : Nat → Nat) (p1 : Int32) (p2 : Int32) (p3 : Int32) : ctI l (dC, dI) cy yX11_sewing cX11_sewing 10 .int 3 103 0 0 Unit [.ref h0, .int p1, .int p2, .int p3] [(h0, .inr (11, mFs r mv0))] (fun r _ => r = F_sewing p1 p2 p3) (fun u => []) := by
  refine ctI_of (by decide) (Nat.le_of_ble_eq_true rfl) (fun p e s m below meth c A ls Q hx hb hml hts hown hE hP hD hA hl ret => ?_)
  have hown : s.vm.findClass RX11 = some m.cls := hown
  have hS : va_S A s.heap s.heap [] := va_S.rf
  have hl : lv_has ls 10 [(0, .ref h0), (1, .int p1), (2, .int p2), (3, .int p3)] := hl
  refine lv_aload_n hx hb dX11_sewing_0 rfl (lv_at hl 0 rfl) ?_
  refine lv_iload_n hx hb dX11_sewing_1 rfl (lv_at hl 1 rfl) ?_
  refine caVi (n := 1) (wr := []) (rest := []) hx hb hml hown hts hE hP hD hS hA (cnX11_isCoat_1 l dC dI cy h0 r p1) k_1771 k_1773 k_75 k_114 k_1774 (by decide +kernel) ⟨Nat.le_of_ble_eq_true rfl, Nat.le_of_ble_eq_true rfl⟩ [0] [] rfl rfl rfl (by decide) (by decide) (by decide) 0 11 rfl rfl rfl hl.1 rfl (Nat.le_of_ble_eq_true rfl) dX11_sewing_2 ⟨Nat.le_of_ble_eq_true rfl, Nat.le_of_ble_eq_true rfl⟩ (fun rr u H locs hw hP hD hS => ?_)
  have hP : va_P (dC, dI) vwCl [(h0, .inr (11, mFs r mv0))] H := hP
  have hD : va_D A [(h0, .inr (11, mFs r mv0))] := hD
  refine tI (y := 0) hw ?_
  refine lv_if_eq (tgt := 25) hx hb dX11_sewing_5 (by decide) (fun _ => ?_) (fun c0 => absurd (by decide) c0)
  refine lv_bipush (v := (-100)) hx hb dX11_sewing_25 (by decide) ?_
  exact ret (-100) () _ _ _ _ _ _ rfl (pt_X11_sewing_300 p1 p2 p3) (hP.sub [] rfl) (hD.sub [] (by decide) rfl) hS dX11_sewing_27 (Nat.le_of_ble_eq_true rfl) (Nat.le_of_ble_eq_true rfl)
theorem pt_X10_rota_301 (p1 : Int32) : ((-1) : Int32) = F_rota p1 := by
  unfold F_rota
  (repeat' split)
  all_goals first | rfl | assumption | (exfalso; simp only [fa_lt, fa_le, fa_eq, tl_m1] at *; omega) | (simp only [fa_lt, fa_le, fa_eq, tl_m1] at *; omega)
set_option maxHeartbeats 4000000 in
set_option maxRecDepth 100000 in
theorem cnX10_rota_1 (l : Launch) (dC : Nat → ClassId) (dI : Nat → Nat → Nat) (cy : Nat → ClassId) (h0 : Nat) (h1 : Nat) (b0 : Nat) (b1 : Nat) (b2 : Nat) (b3 : Nat) (b4 : Nat) (b5 : Nat) (b6 : Nat) (b7 : Nat) (b8 : Nat) (b9 : Nat) (b10 : Nat) (p1 : Int32) : ctI l (dC, dI) cy yX10_rota cX10_rota 2 .int 1 60 0 0 Unit [.ref h0, .int p1] [(h0, .inr (10, [.ref b0, .ref b1, .ref h1, .ref b2, .ref b3, .ref b4, .ref b5, .ref b6, .ref b7, .int 0])), (h1, .inr (7, [.ref b8, .ref b9, .ref b10, .int 0, .int 0, .int 10, .int 150, .int 2, .int 0, .int 0]))] (fun r _ => r = F_rota p1) (fun u => []) := by
  refine ctI_of (by decide) (Nat.le_of_ble_eq_true rfl) (fun p e s m below meth c A ls Q hx hb hml hts hown hE hP hD hA hl ret => ?_)
  have hown : s.vm.findClass RX10 = some m.cls := hown
  have hS : va_S A s.heap s.heap [] := va_S.rf
  have hl : lv_has ls 2 [(0, .ref h0), (1, .int p1)] := hl
  refine lv_aload_n hx hb dX10_rota_0 rfl (lv_at hl 0 rfl) ?_
  refine va_get (D := (dC, dI)) (ci := 10) (v := .ref h1) (C := RX10) (T := TX10) (N := 10) hx hb hts inB_10 hown hE.1 hP 0 rfl rfl 2 (by decide) (hts _ k_493) (fun _ h9 => h9) rfl dX10_rota_1 ?_
  refine va_getN (D := (dC, dI)) (ci := 7) (v := .int 0) (C := RX7) (T := TX7) (N := 10) hx hb hts inB_7 hown hE.1 hP 1 rfl rfl 3 (by decide) (va_Nw.use rfl (hE.2 _ k_214)) (fun _ h9 => h9) rfl dX10_rota_4 ?_
  refine lv_if_eq (tgt := 19) hx hb dX10_rota_7 (by decide) (fun _ => ?_) (fun c0 => absurd (by decide) c0)
  refine lv_iconst (v := (-1)) hx hb dX10_rota_19 (by decide) ?_
  exact ret (-1) () _ _ _ _ _ _ rfl (pt_X10_rota_301 p1) (hP.sub [] rfl) (hD.sub [] (by decide) rfl) hS dX10_rota_20 (Nat.le_of_ble_eq_true rfl) (Nat.le_of_ble_eq_true rfl)
theorem pt_X11_rota_302 (p1 : Int32) (c1 : 0 ≤ p1 ∧ p1 ≤ 1) (c1 : 0 ≤ p1 ∧ p1 ≤ 1) : ((-1) : Int32) = F_rota p1 := by
  unfold F_rota
  (repeat' split)
  all_goals first | rfl | assumption | (exfalso; simp only [fa_lt, fa_le, fa_eq, tl_m1, tl_0, tl_1] at *; omega) | (simp only [fa_lt, fa_le, fa_eq, tl_m1, tl_0, tl_1] at *; omega)
theorem pt_X11_rota_303 (p1 : Int32) (c1 : ¬ (0 ≤ p1 ∧ p1 ≤ 1)) : ((-1) : Int32) = F_rota p1 := by
  unfold F_rota
  (repeat' split)
  all_goals first | rfl | assumption | (exfalso; simp only [fa_lt, fa_le, fa_eq, tl_m1, tl_0, tl_1] at *; omega) | (simp only [fa_lt, fa_le, fa_eq, tl_m1, tl_0, tl_1] at *; omega)
set_option maxHeartbeats 4000000 in
set_option maxRecDepth 100000 in
theorem cnX11_rota_1 (l : Launch) (dC : Nat → ClassId) (dI : Nat → Nat → Nat) (cy : Nat → ClassId) (h0 : Nat) (r : Nat → Nat) (p1 : Int32) : ctI l (dC, dI) cy yX11_rota cX11_rota 6 .int 2 82 0 0 Unit [.ref h0, .int p1] [(h0, .inr (11, mFs r mv0))] (fun r _ => r = F_rota p1) (fun u => []) := by
  refine ctI_of (by decide) (Nat.le_of_ble_eq_true rfl) (fun p e s m below meth c A ls Q hx hb hml hts hown hE hP hD hA hl ret => ?_)
  have hown : s.vm.findClass RX11 = some m.cls := hown
  have hS : va_S A s.heap s.heap [] := va_S.rf
  have hl : lv_has ls 6 [(0, .ref h0), (1, .int p1)] := hl
  refine lv_iload_n hx hb dX11_rota_0 rfl (lv_at hl 1 rfl) ?_
  refine lv_iconst (v := 0) hx hb dX11_rota_1 (by decide) ?_
  refine lv_iconst (v := 1) hx hb dX11_rota_2 (by decide) ?_
  by_cases c1 : (0 ≤ p1 ∧ p1 ≤ 1)
  · skip
    refine caSi (n := 3) (wr := [(h0, .inr (11, mFs r mv0))]) (rest := []) hx hb hml hown hts hE hP hD hS hA (cnX11_isIn_2 l dC dI cy p1 c1) k_1736 k_1737 k_114 k_1738 (by decide +kernel) ⟨Nat.le_of_ble_eq_true rfl, Nat.le_of_ble_eq_true rfl⟩ [] [0] rfl rfl rfl (by decide) (by decide) (by decide) rfl hl.1 rfl (Nat.le_of_ble_eq_true rfl) dX11_rota_3 ⟨Nat.le_of_ble_eq_true rfl, Nat.le_of_ble_eq_true rfl⟩ (fun rr u H locs hw hP hD hS => ?_)
    have hP : va_P (dC, dI) vwCl [(h0, .inr (11, mFs r mv0))] H := hP
    have hD : va_D A [(h0, .inr (11, mFs r mv0))] := hD
    refine tI (y := 1) hw ?_
    refine lv_if_eq (tgt := 16) hx hb dX11_rota_6 (by decide) (fun c0 => absurd c0 (by decide)) (fun _ => ?_)
    refine lv_aload_n hx hb dX11_rota_9 rfl (lv_at hl 0 rfl) ?_
    refine va_get (D := (dC, dI)) (ci := 11) (v := .int 0) (C := RX11) (T := TX11) (N := 79) hx hb hts inB_11 hown hE.1 hP 0 rfl rfl 48 (by decide) (hts _ k_1368) (fun _ h9 => h9) rfl dX11_rota_10 ?_
    refine lv_if_ne (tgt := 18) hx hb dX11_rota_13 (by decide) (fun c0 => absurd (by decide) c0) (fun _ => ?_)
    refine lv_iconst (v := (-1)) hx hb dX11_rota_16 (by decide) ?_
    exact ret (-1) () _ _ _ _ _ _ rfl (pt_X11_rota_302 p1 c1 c1) (hP.sub [] rfl) (hD.sub [] (by decide) rfl) hS dX11_rota_17 (Nat.le_of_ble_eq_true rfl) (Nat.le_of_ble_eq_true rfl)
  · skip
    refine caSi (n := 3) (wr := [(h0, .inr (11, mFs r mv0))]) (rest := []) hx hb hml hown hts hE hP hD hS hA (cnX11_isIn_3 l dC dI cy p1 c1) k_1736 k_1737 k_114 k_1738 (by decide +kernel) ⟨Nat.le_of_ble_eq_true rfl, Nat.le_of_ble_eq_true rfl⟩ [] [0] rfl rfl rfl (by decide) (by decide) (by decide) rfl hl.1 rfl (Nat.le_of_ble_eq_true rfl) dX11_rota_3 ⟨Nat.le_of_ble_eq_true rfl, Nat.le_of_ble_eq_true rfl⟩ (fun rr u H locs hw hP hD hS => ?_)
    have hP : va_P (dC, dI) vwCl [(h0, .inr (11, mFs r mv0))] H := hP
    have hD : va_D A [(h0, .inr (11, mFs r mv0))] := hD
    refine tI (y := 0) hw ?_
    refine lv_if_eq (tgt := 16) hx hb dX11_rota_6 (by decide) (fun _ => ?_) (fun c0 => absurd (by decide) c0)
    refine lv_iconst (v := (-1)) hx hb dX11_rota_16 (by decide) ?_
    exact ret (-1) () _ _ _ _ _ _ rfl (pt_X11_rota_303 p1 c1) (hP.sub [] rfl) (hD.sub [] (by decide) rfl) hS dX11_rota_17 (Nat.le_of_ble_eq_true rfl) (Nat.le_of_ble_eq_true rfl)
set_option maxHeartbeats 4000000 in
set_option maxRecDepth 100000 in
theorem cnJ6_bitCount_0f7a4_1 (l : Launch) (dC : Nat → ClassId) (dI : Nat → Nat → Nat) (cy : Nat → ClassId)  : ctI l (dC, dI) cy yJ6_bitCount_0f7a4 cJ6_bitCount_0f7a4 1 .int 1 60 0 0 Unit [.int 0] [] (fun r _ => r = 0) (fun u => []) := by
  refine ctI_of (by decide) (Nat.le_of_ble_eq_true rfl) (fun p e s m below meth c A ls Q hx hb hml hts hown hE hP hD hA hl ret => ?_)
  have hown : s.vm.findClass RJ6 = some m.cls := hown
  have hS : va_S A s.heap s.heap [] := va_S.rf
  have hl : lv_has ls 1 [(0, .int 0)] := hl
  refine lv_iload_n hx hb dJ6_bitCount_0f7a4_0 rfl (lv_at hl 0 rfl) ?_
  refine lv_iload_n hx hb dJ6_bitCount_0f7a4_1 rfl (lv_at hl 0 rfl) ?_
  refine lv_iconst (v := 1) hx hb dJ6_bitCount_0f7a4_2 (by decide) ?_
  refine lv_iushr (v := 0) hx hb dJ6_bitCount_0f7a4_3 (by decide) ?_
  refine lv_ldcw (v := 1431655765) hx hb hown (hts _ k_1045) dJ6_bitCount_0f7a4_4 ?_
  refine lv_iand hx hb dJ6_bitCount_0f7a4_7 ?_
  refine tI (y := 0) (by decide) ?_
  refine lv_isub hx hb dJ6_bitCount_0f7a4_8 ?_
  refine tI (y := 0) (by decide) ?_
  refine lv_istore_n (lv' := [(0, .int 0)]) hx hb dJ6_bitCount_0f7a4_9 rfl hl (by decide) rfl (fun ls hl => ?_)
  refine lv_iload_n hx hb dJ6_bitCount_0f7a4_10 rfl (lv_at hl 0 rfl) ?_
  refine lv_ldcw (v := 858993459) hx hb hown (hts _ k_1046) dJ6_bitCount_0f7a4_11 ?_
  refine lv_iand hx hb dJ6_bitCount_0f7a4_14 ?_
  refine tI (y := 0) (by decide) ?_
  refine lv_iload_n hx hb dJ6_bitCount_0f7a4_15 rfl (lv_at hl 0 rfl) ?_
  refine lv_iconst (v := 2) hx hb dJ6_bitCount_0f7a4_16 (by decide) ?_
  refine lv_iushr (v := 0) hx hb dJ6_bitCount_0f7a4_17 (by decide) ?_
  refine lv_ldcw (v := 858993459) hx hb hown (hts _ k_1046) dJ6_bitCount_0f7a4_18 ?_
  refine lv_iand hx hb dJ6_bitCount_0f7a4_21 ?_
  refine tI (y := 0) (by decide) ?_
  refine lv_iadd hx hb dJ6_bitCount_0f7a4_22 ?_
  refine tI (y := 0) (by decide) ?_
  refine lv_istore_n (lv' := [(0, .int 0)]) hx hb dJ6_bitCount_0f7a4_23 rfl hl (by decide) rfl (fun ls hl => ?_)
  refine lv_iload_n hx hb dJ6_bitCount_0f7a4_24 rfl (lv_at hl 0 rfl) ?_
  refine lv_iload_n hx hb dJ6_bitCount_0f7a4_25 rfl (lv_at hl 0 rfl) ?_
  refine lv_iconst (v := 4) hx hb dJ6_bitCount_0f7a4_26 (by decide) ?_
  refine lv_iushr (v := 0) hx hb dJ6_bitCount_0f7a4_27 (by decide) ?_
  refine lv_iadd hx hb dJ6_bitCount_0f7a4_28 ?_
  refine tI (y := 0) (by decide) ?_
  refine lv_ldcw (v := 252645135) hx hb hown (hts _ k_1047) dJ6_bitCount_0f7a4_29 ?_
  refine lv_iand hx hb dJ6_bitCount_0f7a4_32 ?_
  refine tI (y := 0) (by decide) ?_
  refine lv_istore_n (lv' := [(0, .int 0)]) hx hb dJ6_bitCount_0f7a4_33 rfl hl (by decide) rfl (fun ls hl => ?_)
  refine lv_iload_n hx hb dJ6_bitCount_0f7a4_34 rfl (lv_at hl 0 rfl) ?_
  refine lv_iload_n hx hb dJ6_bitCount_0f7a4_35 rfl (lv_at hl 0 rfl) ?_
  refine lv_bipush (v := 8) hx hb dJ6_bitCount_0f7a4_36 (by decide) ?_
  refine lv_iushr (v := 0) hx hb dJ6_bitCount_0f7a4_38 (by decide) ?_
  refine lv_iadd hx hb dJ6_bitCount_0f7a4_39 ?_
  refine tI (y := 0) (by decide) ?_
  refine lv_istore_n (lv' := [(0, .int 0)]) hx hb dJ6_bitCount_0f7a4_40 rfl hl (by decide) rfl (fun ls hl => ?_)
  refine lv_iload_n hx hb dJ6_bitCount_0f7a4_41 rfl (lv_at hl 0 rfl) ?_
  refine lv_iload_n hx hb dJ6_bitCount_0f7a4_42 rfl (lv_at hl 0 rfl) ?_
  refine lv_bipush (v := 16) hx hb dJ6_bitCount_0f7a4_43 (by decide) ?_
  refine lv_iushr (v := 0) hx hb dJ6_bitCount_0f7a4_45 (by decide) ?_
  refine lv_iadd hx hb dJ6_bitCount_0f7a4_46 ?_
  refine tI (y := 0) (by decide) ?_
  refine lv_istore_n (lv' := [(0, .int 0)]) hx hb dJ6_bitCount_0f7a4_47 rfl hl (by decide) rfl (fun ls hl => ?_)
  refine lv_iload_n hx hb dJ6_bitCount_0f7a4_48 rfl (lv_at hl 0 rfl) ?_
  refine lv_bipush (v := 63) hx hb dJ6_bitCount_0f7a4_49 (by decide) ?_
  refine lv_iand hx hb dJ6_bitCount_0f7a4_51 ?_
  refine tI (y := 0) (by decide) ?_
  exact ret 0 () _ _ _ _ _ _ rfl rfl (hP.sub [] rfl) (hD.sub [] (by decide) rfl) hS dJ6_bitCount_0f7a4_52 (Nat.le_of_ble_eq_true rfl) (Nat.le_of_ble_eq_true rfl)
set_option maxHeartbeats 4000000 in
set_option maxRecDepth 100000 in
theorem cnX3_findChange_1 (l : Launch) (dC : Nat → ClassId) (dI : Nat → Nat → Nat) (cy : Nat → ClassId) (h0 : Nat) (h1 : Nat) (h2 : Nat) (b0 : Nat) (b1 : Nat) (b2 : Nat) (b3 : Nat) (b4 : Nat) : ctI l (dC, dI) cy yX3_findChange cX3_findChange 5 .boolean 2 82 0 0 Unit [.ref h0] [(h0, .inr (3, [.ref h2, .ref h1, .ref b0, .int 0, .int 0, .int 0, .int 0, .int 0, .int 0, .int 0])), (h1, .inr (1, [.ref h2, .ref b1])), (h2, .inr (7, [.ref b2, .ref b3, .ref b4, .int 0, .int 0, .int 10, .int 150, .int 2, .int 0, .int 0]))] (fun r _ => r = 0) (fun u => [(h0, .inr (3, [.ref h2, .ref h1, .ref b0, .int 0, .int 0, .int 0, .int 0, .int 0, .int 0, .int 0])), (h1, .inr (1, [.ref h2, .ref b1])), (h2, .inr (7, [.ref b2, .ref b3, .ref b4, .int 0, .int 0, .int 10, .int 150, .int 2, .int 0, .int 0]))]) := by
  refine ctI_of (by decide) (Nat.le_of_ble_eq_true rfl) (fun p e s m below meth c A ls Q hx hb hml hts hown hE hP hD hA hl ret => ?_)
  have hown : s.vm.findClass RX3 = some m.cls := hown
  have hS : va_S A s.heap s.heap [] := va_S.rf
  have hl : lv_has ls 5 [(0, .ref h0)] := hl
  refine lv_aload_n hx hb dX3_findChange_0 rfl (lv_at hl 0 rfl) ?_
  refine va_get (D := (dC, dI)) (ci := 3) (v := .ref h1) (C := RX3) (T := TX3) (N := 10) hx hb hts inB_3 hown hE.1 hP 0 rfl rfl 1 (by decide) (hts _ k_371) (fun _ h9 => h9) rfl dX3_findChange_1 ?_
  refine caVi (n := 0) (wr := [(h0, .inr (3, [.ref h2, .ref h1, .ref b0, .int 0, .int 0, .int 0, .int 0, .int 0, .int 0, .int 0]))]) (rest := []) hx hb hml hown hts hE hP hD hS hA (cnX1_fittedMen_1 l dC dI cy h1 h2 b1 b2 b3 b4) k_1041 k_964 k_965 k_106 k_966 (by decide +kernel) ⟨Nat.le_of_ble_eq_true rfl, Nat.le_of_ble_eq_true rfl⟩ [1, 2] [0] rfl rfl rfl (by decide) (by decide) (by decide) 0 1 rfl rfl rfl hl.1 rfl (Nat.le_of_ble_eq_true rfl) dX3_findChange_4 ⟨Nat.le_of_ble_eq_true rfl, Nat.le_of_ble_eq_true rfl⟩ (fun rr u H locs hw hP hD hS => ?_)
  have hP : va_P (dC, dI) vwCl [(h0, .inr (3, [.ref h2, .ref h1, .ref b0, .int 0, .int 0, .int 0, .int 0, .int 0, .int 0, .int 0])), (h1, .inr (1, [.ref h2, .ref b1])), (h2, .inr (7, [.ref b2, .ref b3, .ref b4, .int 0, .int 0, .int 10, .int 150, .int 2, .int 0, .int 0]))] H := hP
  have hD : va_D A [(h0, .inr (3, [.ref h2, .ref h1, .ref b0, .int 0, .int 0, .int 0, .int 0, .int 0, .int 0, .int 0])), (h1, .inr (1, [.ref h2, .ref b1])), (h2, .inr (7, [.ref b2, .ref b3, .ref b4, .int 0, .int 0, .int 10, .int 150, .int 2, .int 0, .int 0]))] := hD
  refine tI (y := 0) hw ?_
  refine caSi (n := 1) (wr := [(h0, .inr (3, [.ref h2, .ref h1, .ref b0, .int 0, .int 0, .int 0, .int 0, .int 0, .int 0, .int 0])), (h1, .inr (1, [.ref h2, .ref b1])), (h2, .inr (7, [.ref b2, .ref b3, .ref b4, .int 0, .int 0, .int 10, .int 150, .int 2, .int 0, .int 0]))]) (rest := []) hx hb hml hown hts hE hP hD hS hA (cnJ6_bitCount_0f7a4_1 l dC dI cy ) k_1042 k_1043 k_121 k_1044 (by decide +kernel) ⟨Nat.le_of_ble_eq_true rfl, Nat.le_of_ble_eq_true rfl⟩ [] [0, 1, 2] rfl rfl rfl (by decide) (by decide) (by decide) rfl hl.1 rfl (Nat.le_of_ble_eq_true rfl) dX3_findChange_7 ⟨Nat.le_of_ble_eq_true rfl, Nat.le_of_ble_eq_true rfl⟩ (fun rr u H locs hw hP hD hS => ?_)
  have hP : va_P (dC, dI) vwCl [(h0, .inr (3, [.ref h2, .ref h1, .ref b0, .int 0, .int 0, .int 0, .int 0, .int 0, .int 0, .int 0])), (h1, .inr (1, [.ref h2, .ref b1])), (h2, .inr (7, [.ref b2, .ref b3, .ref b4, .int 0, .int 0, .int 10, .int 150, .int 2, .int 0, .int 0]))] H := hP
  have hD : va_D A [(h0, .inr (3, [.ref h2, .ref h1, .ref b0, .int 0, .int 0, .int 0, .int 0, .int 0, .int 0, .int 0])), (h1, .inr (1, [.ref h2, .ref b1])), (h2, .inr (7, [.ref b2, .ref b3, .ref b4, .int 0, .int 0, .int 10, .int 150, .int 2, .int 0, .int 0]))] := hD
  refine tI (y := 0) hw ?_
  refine lv_istore_n (lv' := [(1, .int 0), (0, .ref h0)]) hx hb dX3_findChange_10 rfl hl (by decide) rfl (fun ls hl => ?_)
  refine lv_aload_n hx hb dX3_findChange_11 rfl (lv_at hl 1 rfl) ?_
  refine lv_iload_n hx hb dX3_findChange_12 rfl (lv_at hl 0 rfl) ?_
  refine va_put (D := (dC, dI)) (ci := 3) (v := .int 0) (ty := tyX3 9) (C := RX3) (T := TX3) (N := 10) hx hb hts inB_3 tyX3 tyX3_ok nmX3 hown hE.1 hP hD hS 0 rfl rfl 9 (by decide) (hts _ k_385) (fun _ h9 => h9) rfl (tyX3_ok 9 (by decide)) rfl rfl (Nat.le_of_ble_eq_true rfl) dX3_findChange_13 (fun H locs hP hD hS => ?_)
  have hP : va_P (dC, dI) vwCl [(h0, .inr (3, [.ref h2, .ref h1, .ref b0, .int 0, .int 0, .int 0, .int 0, .int 0, .int 0, .int 0])), (h1, .inr (1, [.ref h2, .ref b1])), (h2, .inr (7, [.ref b2, .ref b3, .ref b4, .int 0, .int 0, .int 10, .int 150, .int 2, .int 0, .int 0]))] H := hP
  have hD : va_D A [(h0, .inr (3, [.ref h2, .ref h1, .ref b0, .int 0, .int 0, .int 0, .int 0, .int 0, .int 0, .int 0])), (h1, .inr (1, [.ref h2, .ref b1])), (h2, .inr (7, [.ref b2, .ref b3, .ref b4, .int 0, .int 0, .int 10, .int 150, .int 2, .int 0, .int 0]))] := hD
  refine lv_iconst (v := 0) hx hb dX3_findChange_16 (by decide) ?_
  refine lv_istore_n (lv' := [(2, .int 0), (1, .int 0), (0, .ref h0)]) hx hb dX3_findChange_17 rfl hl (by decide) rfl (fun ls hl => ?_)
  refine lv_iload_n hx hb dX3_findChange_18 rfl (lv_at hl 0 rfl) ?_
  refine lv_aload_n hx hb dX3_findChange_19 rfl (lv_at hl 2 rfl) ?_
  refine va_get (D := (dC, dI)) (ci := 3) (v := .ref h2) (C := RX3) (T := TX3) (N := 10) hx hb hts inB_3 hown hE.1 hP 0 rfl rfl 0 (by decide) (hts _ k_370) (fun _ h9 => h9) rfl dX3_findChange_20 ?_
  refine va_getN (D := (dC, dI)) (ci := 7) (v := .int 0) (C := RX7) (T := TX7) (N := 10) hx hb hts inB_7 hown hE.1 hP 2 rfl rfl 3 (by decide) (va_Nw.use rfl (hE.2 _ k_217)) (fun _ h9 => h9) rfl dX3_findChange_23 ?_
  refine lv_icmp_ge (tgt := 89) hx hb dX3_findChange_26 (by decide) (fun _ => ?_) (fun c0 => absurd (by decide) c0)
  refine lv_aload_n hx hb dX3_findChange_89 rfl (lv_at hl 2 rfl) ?_
  refine va_get (D := (dC, dI)) (ci := 3) (v := .int 0) (C := RX3) (T := TX3) (N := 10) hx hb hts inB_3 hown hE.1 hP 0 rfl rfl 9 (by decide) (hts _ k_385) (fun _ h9 => h9) rfl dX3_findChange_90 ?_
  refine lv_iload_n hx hb dX3_findChange_93 rfl (lv_at hl 1 rfl) ?_
  refine lv_icmp_le (tgt := 101) hx hb dX3_findChange_94 (by decide) (fun _ => ?_) (fun c0 => absurd (by decide) c0)
  refine lv_iconst (v := 0) hx hb dX3_findChange_101 (by decide) ?_
  exact ret 0 () _ _ _ _ _ _ rfl rfl (hP.sub [0, 1, 2] rfl) (hD.sub [0, 1, 2] (by decide) rfl) hS dX3_findChange_102 (Nat.le_of_ble_eq_true rfl) (Nat.le_of_ble_eq_true rfl)
theorem pt_X10_change_304 (p1 : Int32) (c1 : p1 < 0) : ((-1) : Int32) = F_change p1 := by
  unfold F_change
  (repeat' split)
  all_goals first | rfl | assumption | (exfalso; simp only [fa_lt, fa_le, fa_eq, tl_m1, tl_0] at *; omega) | (simp only [fa_lt, fa_le, fa_eq, tl_m1, tl_0] at *; omega)
theorem pt_X10_change_305 (p1 : Int32) (c1 : ¬ p1 < 0) (c2 : 2 < p1) : ((-1) : Int32) = F_change p1 := by
  unfold F_change
  (repeat' split)
  all_goals first | rfl | assumption | (exfalso; simp only [fa_lt, fa_le, fa_eq, tl_m1, tl_0, tl_2] at *; omega) | (simp only [fa_lt, fa_le, fa_eq, tl_m1, tl_0, tl_2] at *; omega)
theorem pt_X10_change_306 (p1 : Int32) (c1 : ¬ p1 < 0) (c2 : ¬ 2 < p1) : ((-1) : Int32) = F_change p1 := by
  unfold F_change
  (repeat' split)
  all_goals first | rfl | assumption | (exfalso; simp only [fa_lt, fa_le, fa_eq, tl_m1, tl_0, tl_2] at *; omega) | (simp only [fa_lt, fa_le, fa_eq, tl_m1, tl_0, tl_2] at *; omega)
set_option maxHeartbeats 4000000 in
set_option maxRecDepth 100000 in
theorem cnX10_change_1 (l : Launch) (dC : Nat → ClassId) (dI : Nat → Nat → Nat) (cy : Nat → ClassId) (h0 : Nat) (h1 : Nat) (h2 : Nat) (h3 : Nat) (b0 : Nat) (b1 : Nat) (b2 : Nat) (b3 : Nat) (b4 : Nat) (b5 : Nat) (b6 : Nat) (b7 : Nat) (b8 : Nat) (b9 : Nat) (b10 : Nat) (p1 : Int32) : ctI l (dC, dI) cy yX10_change cX10_change 2 .int 3 106 0 0 Unit [.ref h0, .int p1] [(h0, .inr (10, [.ref b0, .ref b1, .ref h3, .ref h2, .ref b2, .ref h1, .ref b3, .ref b4, .ref b5, .int 0])), (h1, .inr (3, [.ref h3, .ref h2, .ref b6, .int 0, .int 0, .int 0, .int 0, .int 0, .int 0, .int 0])), (h2, .inr (1, [.ref h3, .ref b7])), (h3, .inr (7, [.ref b8, .ref b9, .ref b10, .int 0, .int 0, .int 10, .int 150, .int 2, .int 0, .int 0]))] (fun r _ => r = F_change p1) (fun u => []) := by
  refine ctI_of (by decide) (Nat.le_of_ble_eq_true rfl) (fun p e s m below meth c A ls Q hx hb hml hts hown hE hP hD hA hl ret => ?_)
  have hown : s.vm.findClass RX10 = some m.cls := hown
  have hS : va_S A s.heap s.heap [] := va_S.rf
  have hl : lv_has ls 2 [(0, .ref h0), (1, .int p1)] := hl
  refine lv_iload_n hx hb dX10_change_0 rfl (lv_at hl 1 rfl) ?_
  refine lv_if_lt (tgt := 19) hx hb dX10_change_1 (by decide) (fun c1 => ?_) (fun c1 => ?_)
  · skip
    refine lv_iconst (v := (-1)) hx hb dX10_change_19 (by decide) ?_
    exact ret (-1) () _ _ _ _ _ _ rfl (pt_X10_change_304 p1 c1) (hP.sub [] rfl) (hD.sub [] (by decide) rfl) hS dX10_change_20 (Nat.le_of_ble_eq_true rfl) (Nat.le_of_ble_eq_true rfl)
  · skip
    refine lv_iload_n hx hb dX10_change_4 rfl (lv_at hl 1 rfl) ?_
    refine lv_iconst (v := 2) hx hb dX10_change_5 (by decide) ?_
    refine lv_icmp_gt (tgt := 19) hx hb dX10_change_6 (by decide) (fun c2 => ?_) (fun c2 => ?_)
    · skip
      refine lv_iconst (v := (-1)) hx hb dX10_change_19 (by decide) ?_
      exact ret (-1) () _ _ _ _ _ _ rfl (pt_X10_change_305 p1 c1 c2) (hP.sub [] rfl) (hD.sub [] (by decide) rfl) hS dX10_change_20 (Nat.le_of_ble_eq_true rfl) (Nat.le_of_ble_eq_true rfl)
    · skip
      refine lv_aload_n hx hb dX10_change_9 rfl (lv_at hl 0 rfl) ?_
      refine va_get (D := (dC, dI)) (ci := 10) (v := .ref h1) (C := RX10) (T := TX10) (N := 10) hx hb hts inB_10 hown hE.1 hP 0 rfl rfl 5 (by decide) (hts _ k_496) (fun _ h9 => h9) rfl dX10_change_10 ?_
      refine caVi (n := 0) (wr := [(h0, .inr (10, [.ref b0, .ref b1, .ref h3, .ref h2, .ref b2, .ref h1, .ref b3, .ref b4, .ref b5, .int 0]))]) (rest := []) hx hb hml hown hts hE hP hD hS hA (cnX3_findChange_1 l dC dI cy h1 h2 h3 b6 b7 b8 b9 b10) k_1037 k_1038 k_1039 k_109 k_1040 (by decide +kernel) ⟨Nat.le_of_ble_eq_true rfl, Nat.le_of_ble_eq_true rfl⟩ [1, 2, 3] [0] rfl rfl rfl (by decide) (by decide) (by decide) 0 3 rfl rfl rfl hl.1 rfl (Nat.le_of_ble_eq_true rfl) dX10_change_13 ⟨Nat.le_of_ble_eq_true rfl, Nat.le_of_ble_eq_true rfl⟩ (fun rr u H locs hw hP hD hS => ?_)
      have hP : va_P (dC, dI) vwCl [(h0, .inr (10, [.ref b0, .ref b1, .ref h3, .ref h2, .ref b2, .ref h1, .ref b3, .ref b4, .ref b5, .int 0])), (h1, .inr (3, [.ref h3, .ref h2, .ref b6, .int 0, .int 0, .int 0, .int 0, .int 0, .int 0, .int 0])), (h2, .inr (1, [.ref h3, .ref b7])), (h3, .inr (7, [.ref b8, .ref b9, .ref b10, .int 0, .int 0, .int 10, .int 150, .int 2, .int 0, .int 0]))] H := hP
      have hD : va_D A [(h0, .inr (10, [.ref b0, .ref b1, .ref h3, .ref h2, .ref b2, .ref h1, .ref b3, .ref b4, .ref b5, .int 0])), (h1, .inr (3, [.ref h3, .ref h2, .ref b6, .int 0, .int 0, .int 0, .int 0, .int 0, .int 0, .int 0])), (h2, .inr (1, [.ref h3, .ref b7])), (h3, .inr (7, [.ref b8, .ref b9, .ref b10, .int 0, .int 0, .int 10, .int 150, .int 2, .int 0, .int 0]))] := hD
      refine tI (y := 0) hw ?_
      refine lv_if_ne (tgt := 21) hx hb dX10_change_16 (by decide) (fun c0 => absurd (by decide) c0) (fun _ => ?_)
      refine lv_iconst (v := (-1)) hx hb dX10_change_19 (by decide) ?_
      exact ret (-1) () _ _ _ _ _ _ rfl (pt_X10_change_306 p1 c1 c2) (hP.sub [] rfl) (hD.sub [] (by decide) rfl) hS dX10_change_20 (Nat.le_of_ble_eq_true rfl) (Nat.le_of_ble_eq_true rfl)
theorem po_X11_isIn_307 (p0 : Int32) (hv : 0 ≤ p0 ∧ p0 ≤ 2) (hv : 0 ≤ p0 ∧ p0 ≤ 2) : ¬ p0 < 0 := by simp only [fa_lt, fa_le, fa_eq, tl_0, tl_2] at *; omega
theorem po_X11_isIn_308 (p0 : Int32) (hv : 0 ≤ p0 ∧ p0 ≤ 2) (hv : 0 ≤ p0 ∧ p0 ≤ 2) : ¬ 2 < p0 := by simp only [fa_lt, fa_le, fa_eq, tl_0, tl_2] at *; omega
set_option maxHeartbeats 4000000 in
set_option maxRecDepth 100000 in
theorem cnX11_isIn_4 (l : Launch) (dC : Nat → ClassId) (dI : Nat → Nat → Nat) (cy : Nat → ClassId) (p0 : Int32) (hv : 0 ≤ p0 ∧ p0 ≤ 2) : ctI l (dC, dI) cy yX11_isIn cX11_isIn 3 .boolean 1 60 0 0 Unit [.int p0, .int 0, .int 2] [] (fun r _ => r = 1) (fun u => []) := by
  refine ctI_of (by decide) (Nat.le_of_ble_eq_true rfl) (fun p e s m below meth c A ls Q hx hb hml hts hown hE hP hD hA hl ret => ?_)
  have hown : s.vm.findClass RX11 = some m.cls := hown
  have hS : va_S A s.heap s.heap [] := va_S.rf
  have hl : lv_has ls 3 [(0, .int p0), (1, .int 0), (2, .int 2)] := hl
  refine lv_iload_n hx hb dX11_isIn_0 rfl (lv_at hl 0 rfl) ?_
  refine lv_iload_n hx hb dX11_isIn_1 rfl (lv_at hl 1 rfl) ?_
  refine lv_icmp_lt (tgt := 14) hx hb dX11_isIn_2 (by decide) (fun c0 => absurd c0 (po_X11_isIn_307 p0 hv hv)) (fun _ => ?_)
  refine lv_iload_n hx hb dX11_isIn_5 rfl (lv_at hl 0 rfl) ?_
  refine lv_iload_n hx hb dX11_isIn_6 rfl (lv_at hl 2 rfl) ?_
  refine lv_icmp_gt (tgt := 14) hx hb dX11_isIn_7 (by decide) (fun c0 => absurd c0 (po_X11_isIn_308 p0 hv hv)) (fun _ => ?_)
  refine lv_iconst (v := 1) hx hb dX11_isIn_10 (by decide) ?_
  refine lv_goto (tgt := 15) hx hb dX11_isIn_11 (by decide) ?_
  exact ret 1 () _ _ _ _ _ _ rfl rfl (hP.sub [] rfl) (hD.sub [] (by decide) rfl) hS dX11_isIn_15 (Nat.le_of_ble_eq_true rfl) (Nat.le_of_ble_eq_true rfl)
set_option maxHeartbeats 4000000 in
set_option maxRecDepth 100000 in
theorem cnX11_fitted_2 (l : Launch) (dC : Nat → ClassId) (dI : Nat → Nat → Nat) (cy : Nat → ClassId) (h0 : Nat) (r : Nat → Nat) : ctI l (dC, dI) cy yX11_fitted cX11_fitted 1 .int 2 82 0 0 Unit [.ref h0] [(h0, .inr (11, mFs r mv0)), ((r 59), .inl (cy 1, 39, .inl zF)), ((r 60), .inl (cy 1, 39, .inl zF))] (fun r _ => r = 0) (fun u => [(h0, .inr (11, mFs r mv0)), ((r 59), .inl (cy 1, 39, .inl zF)), ((r 60), .inl (cy 1, 39, .inl zF))]) := by
  refine ctI_of (by decide) (Nat.le_of_ble_eq_true rfl) (fun p e s m below meth c A ls Q hx hb hml hts hown hE hP hD hA hl ret => ?_)
  have hown : s.vm.findClass RX11 = some m.cls := hown
  have hS : va_S A s.heap s.heap [] := va_S.rf
  have hl : lv_has ls 1 [(0, .ref h0)] := hl
  refine lv_aload_n hx hb dX11_fitted_0 rfl (lv_at hl 0 rfl) ?_
  refine caVv (n := 0) (wr := []) (rest := []) hx hb hml hown hts hE hP hD hS hA (cnX11_fill_1 l dC dI cy h0 r) k_1739 k_1741 k_71 k_114 k_1742 (by decide +kernel) ⟨Nat.le_of_ble_eq_true rfl, Nat.le_of_ble_eq_true rfl⟩ [0, 1, 2] [] rfl rfl rfl (by decide) (by decide) (by decide) 0 11 rfl rfl rfl hl.1 rfl (Nat.le_of_ble_eq_true rfl) dX11_fitted_1 ⟨Nat.le_of_ble_eq_true rfl, Nat.le_of_ble_eq_true rfl⟩ (fun u H locs hw hP hD hS => ?_)
  have hP : va_P (dC, dI) vwCl [(h0, .inr (11, mFs r mv0)), ((r 59), .inl (cy 1, 39, .inl zF)), ((r 60), .inl (cy 1, 39, .inl zF))] H := hP
  have hD : va_D A [(h0, .inr (11, mFs r mv0)), ((r 59), .inl (cy 1, 39, .inl zF)), ((r 60), .inl (cy 1, 39, .inl zF))] := hD
  refine lv_aload_n hx hb dX11_fitted_4 rfl (lv_at hl 0 rfl) ?_
  refine caVi (n := 0) (wr := [((r 59), .inl (cy 1, 39, .inl zF)), ((r 60), .inl (cy 1, 39, .inl zF))]) (rest := []) hx hb hml hown hts hE hP hD hS hA (cnX11_fittedOnes_2 l dC dI cy h0 r) k_1809 k_1811 k_81 k_114 k_1812 (by decide +kernel) ⟨Nat.le_of_ble_eq_true rfl, Nat.le_of_ble_eq_true rfl⟩ [0] [1, 2] rfl rfl rfl (by decide) (by decide) (by decide) 0 11 rfl rfl rfl hl.1 rfl (Nat.le_of_ble_eq_true rfl) dX11_fitted_5 ⟨Nat.le_of_ble_eq_true rfl, Nat.le_of_ble_eq_true rfl⟩ (fun rr u H locs hw hP hD hS => ?_)
  have hP : va_P (dC, dI) vwCl [((r 59), .inl (cy 1, 39, .inl zF)), ((r 60), .inl (cy 1, 39, .inl zF)), (h0, .inr (11, mFs r mv0))] H := hP
  have hD : va_D A [((r 59), .inl (cy 1, 39, .inl zF)), ((r 60), .inl (cy 1, 39, .inl zF)), (h0, .inr (11, mFs r mv0))] := hD
  refine tI (y := 0) hw ?_
  exact ret 0 () _ _ _ _ _ _ rfl rfl (hP.sub [2, 0, 1] rfl) (hD.sub [2, 0, 1] (by decide) rfl) hS dX11_fitted_8 (Nat.le_of_ble_eq_true rfl) (Nat.le_of_ble_eq_true rfl)
set_option maxHeartbeats 4000000 in
set_option maxRecDepth 100000 in
theorem cnX11_members_1 (l : Launch) (dC : Nat → ClassId) (dI : Nat → Nat → Nat) (cy : Nat → ClassId)  : ctI l (dC, dI) cy yX11_members cX11_members 3 .int 1 60 0 0 Unit [.int 0] [] (fun r _ => r = 0) (fun u => []) := by
  refine ctI_of (by decide) (Nat.le_of_ble_eq_true rfl) (fun p e s m below meth c A ls Q hx hb hml hts hown hE hP hD hA hl ret => ?_)
  have hown : s.vm.findClass RX11 = some m.cls := hown
  have hS : va_S A s.heap s.heap [] := va_S.rf
  have hl : lv_has ls 3 [(0, .int 0)] := hl
  refine lv_iconst (v := 0) hx hb dX11_members_0 (by decide) ?_
  refine lv_istore_n (lv' := [(1, .int 0), (0, .int 0)]) hx hb dX11_members_1 rfl hl (by decide) rfl (fun ls hl => ?_)
  refine lv_iconst (v := 0) hx hb dX11_members_2 (by decide) ?_
  refine lv_istore_n (lv' := [(2, .int 0), (1, .int 0), (0, .int 0)]) hx hb dX11_members_3 rfl hl (by decide) rfl (fun ls hl => ?_)
  refine lv_iload_n hx hb dX11_members_4 rfl (lv_at hl 0 rfl) ?_
  refine lv_bipush (v := 6) hx hb dX11_members_5 (by decide) ?_
  refine lv_icmp_ge (tgt := 24) hx hb dX11_members_7 (by decide) (fun c0 => absurd c0 (by decide)) (fun _ => ?_)
  refine lv_iload_n hx hb dX11_members_10 rfl (lv_at hl 1 rfl) ?_
  refine lv_iload_n hx hb dX11_members_11 rfl (lv_at hl 2 rfl) ?_
  refine lv_iload_n hx hb dX11_members_12 rfl (lv_at hl 0 rfl) ?_
  refine lv_ishr hx hb dX11_members_13 ?_
  refine tI (y := 0) (by decide) ?_
  refine lv_iconst (v := 1) hx hb dX11_members_14 (by decide) ?_
  refine lv_iand hx hb dX11_members_15 ?_
  refine tI (y := 0) (by decide) ?_
  refine lv_iadd hx hb dX11_members_16 ?_
  refine tI (y := 0) (by decide) ?_
  refine lv_istore_n (lv' := [(1, .int 0), (2, .int 0), (0, .int 0)]) hx hb dX11_members_17 rfl hl (by decide) rfl (fun ls hl => ?_)
  refine lv_iinc (v := 1) (lv' := [(2, .int 1), (1, .int 0), (0, .int 0)]) hx hb dX11_members_18 hl (k := 1) rfl (by decide) (by decide) rfl (fun ls hl => ?_)
  refine lv_goto (tgt := 4) hx hb dX11_members_21 (by decide) ?_
  refine lv_iload_n hx hb dX11_members_4 rfl (lv_at hl 0 rfl) ?_
  refine lv_bipush (v := 6) hx hb dX11_members_5 (by decide) ?_
  refine lv_icmp_ge (tgt := 24) hx hb dX11_members_7 (by decide) (fun c0 => absurd c0 (by decide)) (fun _ => ?_)
  refine lv_iload_n hx hb dX11_members_10 rfl (lv_at hl 1 rfl) ?_
  refine lv_iload_n hx hb dX11_members_11 rfl (lv_at hl 2 rfl) ?_
  refine lv_iload_n hx hb dX11_members_12 rfl (lv_at hl 0 rfl) ?_
  refine lv_ishr hx hb dX11_members_13 ?_
  refine tI (y := 0) (by decide) ?_
  refine lv_iconst (v := 1) hx hb dX11_members_14 (by decide) ?_
  refine lv_iand hx hb dX11_members_15 ?_
  refine tI (y := 0) (by decide) ?_
  refine lv_iadd hx hb dX11_members_16 ?_
  refine tI (y := 0) (by decide) ?_
  refine lv_istore_n (lv' := [(1, .int 0), (2, .int 1), (0, .int 0)]) hx hb dX11_members_17 rfl hl (by decide) rfl (fun ls hl => ?_)
  refine lv_iinc (v := 2) (lv' := [(2, .int 2), (1, .int 0), (0, .int 0)]) hx hb dX11_members_18 hl (k := 1) rfl (by decide) (by decide) rfl (fun ls hl => ?_)
  refine lv_goto (tgt := 4) hx hb dX11_members_21 (by decide) ?_
  refine lv_iload_n hx hb dX11_members_4 rfl (lv_at hl 0 rfl) ?_
  refine lv_bipush (v := 6) hx hb dX11_members_5 (by decide) ?_
  refine lv_icmp_ge (tgt := 24) hx hb dX11_members_7 (by decide) (fun c0 => absurd c0 (by decide)) (fun _ => ?_)
  refine lv_iload_n hx hb dX11_members_10 rfl (lv_at hl 1 rfl) ?_
  refine lv_iload_n hx hb dX11_members_11 rfl (lv_at hl 2 rfl) ?_
  refine lv_iload_n hx hb dX11_members_12 rfl (lv_at hl 0 rfl) ?_
  refine lv_ishr hx hb dX11_members_13 ?_
  refine tI (y := 0) (by decide) ?_
  refine lv_iconst (v := 1) hx hb dX11_members_14 (by decide) ?_
  refine lv_iand hx hb dX11_members_15 ?_
  refine tI (y := 0) (by decide) ?_
  refine lv_iadd hx hb dX11_members_16 ?_
  refine tI (y := 0) (by decide) ?_
  refine lv_istore_n (lv' := [(1, .int 0), (2, .int 2), (0, .int 0)]) hx hb dX11_members_17 rfl hl (by decide) rfl (fun ls hl => ?_)
  refine lv_iinc (v := 3) (lv' := [(2, .int 3), (1, .int 0), (0, .int 0)]) hx hb dX11_members_18 hl (k := 1) rfl (by decide) (by decide) rfl (fun ls hl => ?_)
  refine lv_goto (tgt := 4) hx hb dX11_members_21 (by decide) ?_
  refine lv_iload_n hx hb dX11_members_4 rfl (lv_at hl 0 rfl) ?_
  refine lv_bipush (v := 6) hx hb dX11_members_5 (by decide) ?_
  refine lv_icmp_ge (tgt := 24) hx hb dX11_members_7 (by decide) (fun c0 => absurd c0 (by decide)) (fun _ => ?_)
  refine lv_iload_n hx hb dX11_members_10 rfl (lv_at hl 1 rfl) ?_
  refine lv_iload_n hx hb dX11_members_11 rfl (lv_at hl 2 rfl) ?_
  refine lv_iload_n hx hb dX11_members_12 rfl (lv_at hl 0 rfl) ?_
  refine lv_ishr hx hb dX11_members_13 ?_
  refine tI (y := 0) (by decide) ?_
  refine lv_iconst (v := 1) hx hb dX11_members_14 (by decide) ?_
  refine lv_iand hx hb dX11_members_15 ?_
  refine tI (y := 0) (by decide) ?_
  refine lv_iadd hx hb dX11_members_16 ?_
  refine tI (y := 0) (by decide) ?_
  refine lv_istore_n (lv' := [(1, .int 0), (2, .int 3), (0, .int 0)]) hx hb dX11_members_17 rfl hl (by decide) rfl (fun ls hl => ?_)
  refine lv_iinc (v := 4) (lv' := [(2, .int 4), (1, .int 0), (0, .int 0)]) hx hb dX11_members_18 hl (k := 1) rfl (by decide) (by decide) rfl (fun ls hl => ?_)
  refine lv_goto (tgt := 4) hx hb dX11_members_21 (by decide) ?_
  refine lv_iload_n hx hb dX11_members_4 rfl (lv_at hl 0 rfl) ?_
  refine lv_bipush (v := 6) hx hb dX11_members_5 (by decide) ?_
  refine lv_icmp_ge (tgt := 24) hx hb dX11_members_7 (by decide) (fun c0 => absurd c0 (by decide)) (fun _ => ?_)
  refine lv_iload_n hx hb dX11_members_10 rfl (lv_at hl 1 rfl) ?_
  refine lv_iload_n hx hb dX11_members_11 rfl (lv_at hl 2 rfl) ?_
  refine lv_iload_n hx hb dX11_members_12 rfl (lv_at hl 0 rfl) ?_
  refine lv_ishr hx hb dX11_members_13 ?_
  refine tI (y := 0) (by decide) ?_
  refine lv_iconst (v := 1) hx hb dX11_members_14 (by decide) ?_
  refine lv_iand hx hb dX11_members_15 ?_
  refine tI (y := 0) (by decide) ?_
  refine lv_iadd hx hb dX11_members_16 ?_
  refine tI (y := 0) (by decide) ?_
  refine lv_istore_n (lv' := [(1, .int 0), (2, .int 4), (0, .int 0)]) hx hb dX11_members_17 rfl hl (by decide) rfl (fun ls hl => ?_)
  refine lv_iinc (v := 5) (lv' := [(2, .int 5), (1, .int 0), (0, .int 0)]) hx hb dX11_members_18 hl (k := 1) rfl (by decide) (by decide) rfl (fun ls hl => ?_)
  refine lv_goto (tgt := 4) hx hb dX11_members_21 (by decide) ?_
  refine lv_iload_n hx hb dX11_members_4 rfl (lv_at hl 0 rfl) ?_
  refine lv_bipush (v := 6) hx hb dX11_members_5 (by decide) ?_
  refine lv_icmp_ge (tgt := 24) hx hb dX11_members_7 (by decide) (fun c0 => absurd c0 (by decide)) (fun _ => ?_)
  refine lv_iload_n hx hb dX11_members_10 rfl (lv_at hl 1 rfl) ?_
  refine lv_iload_n hx hb dX11_members_11 rfl (lv_at hl 2 rfl) ?_
  refine lv_iload_n hx hb dX11_members_12 rfl (lv_at hl 0 rfl) ?_
  refine lv_ishr hx hb dX11_members_13 ?_
  refine tI (y := 0) (by decide) ?_
  refine lv_iconst (v := 1) hx hb dX11_members_14 (by decide) ?_
  refine lv_iand hx hb dX11_members_15 ?_
  refine tI (y := 0) (by decide) ?_
  refine lv_iadd hx hb dX11_members_16 ?_
  refine tI (y := 0) (by decide) ?_
  refine lv_istore_n (lv' := [(1, .int 0), (2, .int 5), (0, .int 0)]) hx hb dX11_members_17 rfl hl (by decide) rfl (fun ls hl => ?_)
  refine lv_iinc (v := 6) (lv' := [(2, .int 6), (1, .int 0), (0, .int 0)]) hx hb dX11_members_18 hl (k := 1) rfl (by decide) (by decide) rfl (fun ls hl => ?_)
  refine lv_goto (tgt := 4) hx hb dX11_members_21 (by decide) ?_
  refine lv_iload_n hx hb dX11_members_4 rfl (lv_at hl 0 rfl) ?_
  refine lv_bipush (v := 6) hx hb dX11_members_5 (by decide) ?_
  refine lv_icmp_ge (tgt := 24) hx hb dX11_members_7 (by decide) (fun _ => ?_) (fun c0 => absurd (by decide) c0)
  refine lv_iload_n hx hb dX11_members_24 rfl (lv_at hl 1 rfl) ?_
  exact ret 0 () _ _ _ _ _ _ rfl rfl (hP.sub [] rfl) (hD.sub [] (by decide) rfl) hS dX11_members_25 (Nat.le_of_ble_eq_true rfl) (Nat.le_of_ble_eq_true rfl)
theorem po_X11_isIn_315 (p0 : Int32) (hv : ¬ (0 ≤ p0 ∧ p0 ≤ 2)) (c1 : ¬ p0 < 0) : 2 < p0 := by simp only [fa_lt, fa_le, fa_eq, tl_0, tl_2] at *; omega
set_option maxHeartbeats 4000000 in
set_option maxRecDepth 100000 in
theorem cnX11_isIn_5 (l : Launch) (dC : Nat → ClassId) (dI : Nat → Nat → Nat) (cy : Nat → ClassId) (p0 : Int32) (hv : ¬ (0 ≤ p0 ∧ p0 ≤ 2)) : ctI l (dC, dI) cy yX11_isIn cX11_isIn 3 .boolean 1 60 0 0 Unit [.int p0, .int 0, .int 2] [] (fun r _ => r = 0) (fun u => []) := by
  refine ctI_of (by decide) (Nat.le_of_ble_eq_true rfl) (fun p e s m below meth c A ls Q hx hb hml hts hown hE hP hD hA hl ret => ?_)
  have hown : s.vm.findClass RX11 = some m.cls := hown
  have hS : va_S A s.heap s.heap [] := va_S.rf
  have hl : lv_has ls 3 [(0, .int p0), (1, .int 0), (2, .int 2)] := hl
  refine lv_iload_n hx hb dX11_isIn_0 rfl (lv_at hl 0 rfl) ?_
  refine lv_iload_n hx hb dX11_isIn_1 rfl (lv_at hl 1 rfl) ?_
  refine lv_icmp_lt (tgt := 14) hx hb dX11_isIn_2 (by decide) (fun c1 => ?_) (fun c1 => ?_)
  · skip
    refine lv_iconst (v := 0) hx hb dX11_isIn_14 (by decide) ?_
    exact ret 0 () _ _ _ _ _ _ rfl rfl (hP.sub [] rfl) (hD.sub [] (by decide) rfl) hS dX11_isIn_15 (Nat.le_of_ble_eq_true rfl) (Nat.le_of_ble_eq_true rfl)
  · skip
    refine lv_iload_n hx hb dX11_isIn_5 rfl (lv_at hl 0 rfl) ?_
    refine lv_iload_n hx hb dX11_isIn_6 rfl (lv_at hl 2 rfl) ?_
    refine lv_icmp_gt (tgt := 14) hx hb dX11_isIn_7 (by decide) (fun _ => ?_) (fun c0 => absurd (po_X11_isIn_315 p0 hv c1) c0)
    refine lv_iconst (v := 0) hx hb dX11_isIn_14 (by decide) ?_
    exact ret 0 () _ _ _ _ _ _ rfl rfl (hP.sub [] rfl) (hD.sub [] (by decide) rfl) hS dX11_isIn_15 (Nat.le_of_ble_eq_true rfl) (Nat.le_of_ble_eq_true rfl)
theorem pt_X11_change_320 (p1 : Int32) (c1 : 0 ≤ p1 ∧ p1 ≤ 2) (c1 : 0 ≤ p1 ∧ p1 ≤ 2) : ((-1) : Int32) = F_change p1 := by
  unfold F_change
  (repeat' split)
  all_goals first | rfl | assumption | (exfalso; simp only [fa_lt, fa_le, fa_eq, tl_m1, tl_0, tl_2] at *; omega) | (simp only [fa_lt, fa_le, fa_eq, tl_m1, tl_0, tl_2] at *; omega)
theorem pt_X11_change_321 (p1 : Int32) (c1 : ¬ (0 ≤ p1 ∧ p1 ≤ 2)) : ((-1) : Int32) = F_change p1 := by
  unfold F_change
  (repeat' split)
  all_goals first | rfl | assumption | (exfalso; simp only [fa_lt, fa_le, fa_eq, tl_m1, tl_0, tl_2] at *; omega) | (simp only [fa_lt, fa_le, fa_eq, tl_m1, tl_0, tl_2] at *; omega)
set_option maxHeartbeats 4000000 in
set_option maxRecDepth 100000 in
theorem cnX11_change_1 (l : Launch) (dC : Nat → ClassId) (dI : Nat → Nat → Nat) (cy : Nat → ClassId) (h0 : Nat) (r : Nat → Nat) (p1 : Int32) : ctI l (dC, dI) cy yX11_change cX11_change 7 .int 3 102 0 0 Unit [.ref h0, .int p1] [(h0, .inr (11, mFs r mv0)), ((r 59), .inl (cy 1, 39, .inl zF)), ((r 60), .inl (cy 1, 39, .inl zF))] (fun r _ => r = F_change p1) (fun u => []) := by
  refine ctI_of (by decide) (Nat.le_of_ble_eq_true rfl) (fun p e s m below meth c A ls Q hx hb hml hts hown hE hP hD hA hl ret => ?_)
  have hown : s.vm.findClass RX11 = some m.cls := hown
  have hS : va_S A s.heap s.heap [] := va_S.rf
  have hl : lv_has ls 7 [(0, .ref h0), (1, .int p1)] := hl
  refine lv_iload_n hx hb dX11_change_0 rfl (lv_at hl 1 rfl) ?_
  refine lv_iconst (v := 0) hx hb dX11_change_1 (by decide) ?_
  refine lv_iconst (v := 2) hx hb dX11_change_2 (by decide) ?_
  by_cases c1 : (0 ≤ p1 ∧ p1 ≤ 2)
  · skip
    refine caSi (n := 3) (wr := [(h0, .inr (11, mFs r mv0)), ((r 59), .inl (cy 1, 39, .inl zF)), ((r 60), .inl (cy 1, 39, .inl zF))]) (rest := []) hx hb hml hown hts hE hP hD hS hA (cnX11_isIn_4 l dC dI cy p1 c1) k_1736 k_1737 k_114 k_1738 (by decide +kernel) ⟨Nat.le_of_ble_eq_true rfl, Nat.le_of_ble_eq_true rfl⟩ [] [0, 1, 2] rfl rfl rfl (by decide) (by decide) (by decide) rfl hl.1 rfl (Nat.le_of_ble_eq_true rfl) dX11_change_3 ⟨Nat.le_of_ble_eq_true rfl, Nat.le_of_ble_eq_true rfl⟩ (fun rr u H locs hw hP hD hS => ?_)
    have hP : va_P (dC, dI) vwCl [(h0, .inr (11, mFs r mv0)), ((r 59), .inl (cy 1, 39, .inl zF)), ((r 60), .inl (cy 1, 39, .inl zF))] H := hP
    have hD : va_D A [(h0, .inr (11, mFs r mv0)), ((r 59), .inl (cy 1, 39, .inl zF)), ((r 60), .inl (cy 1, 39, .inl zF))] := hD
    refine tI (y := 1) hw ?_
    refine lv_if_ne (tgt := 11) hx hb dX11_change_6 (by decide) (fun _ => ?_) (fun c0 => absurd c0 (by decide))
    refine lv_aload_n hx hb dX11_change_11 rfl (lv_at hl 0 rfl) ?_
    refine caVi (n := 0) (wr := []) (rest := []) hx hb hml hown hts hE hP hD hS hA (cnX11_fitted_2 l dC dI cy h0 r) k_1907 k_1866 k_1867 k_114 k_1868 (by decide +kernel) ⟨Nat.le_of_ble_eq_true rfl, Nat.le_of_ble_eq_true rfl⟩ [0, 1, 2] [] rfl rfl rfl (by decide) (by decide) (by decide) 0 11 rfl rfl rfl hl.1 rfl (Nat.le_of_ble_eq_true rfl) dX11_change_12 ⟨Nat.le_of_ble_eq_true rfl, Nat.le_of_ble_eq_true rfl⟩ (fun rr u H locs hw hP hD hS => ?_)
    have hP : va_P (dC, dI) vwCl [(h0, .inr (11, mFs r mv0)), ((r 59), .inl (cy 1, 39, .inl zF)), ((r 60), .inl (cy 1, 39, .inl zF))] H := hP
    have hD : va_D A [(h0, .inr (11, mFs r mv0)), ((r 59), .inl (cy 1, 39, .inl zF)), ((r 60), .inl (cy 1, 39, .inl zF))] := hD
    refine tI (y := 0) hw ?_
    refine caSi (n := 1) (wr := [(h0, .inr (11, mFs r mv0)), ((r 59), .inl (cy 1, 39, .inl zF)), ((r 60), .inl (cy 1, 39, .inl zF))]) (rest := []) hx hb hml hown hts hE hP hD hS hA (cnX11_members_1 l dC dI cy ) k_1900 k_1901 k_114 k_1902 (by decide +kernel) ⟨Nat.le_of_ble_eq_true rfl, Nat.le_of_ble_eq_true rfl⟩ [] [0, 1, 2] rfl rfl rfl (by decide) (by decide) (by decide) rfl hl.1 rfl (Nat.le_of_ble_eq_true rfl) dX11_change_15 ⟨Nat.le_of_ble_eq_true rfl, Nat.le_of_ble_eq_true rfl⟩ (fun rr u H locs hw hP hD hS => ?_)
    have hP : va_P (dC, dI) vwCl [(h0, .inr (11, mFs r mv0)), ((r 59), .inl (cy 1, 39, .inl zF)), ((r 60), .inl (cy 1, 39, .inl zF))] H := hP
    have hD : va_D A [(h0, .inr (11, mFs r mv0)), ((r 59), .inl (cy 1, 39, .inl zF)), ((r 60), .inl (cy 1, 39, .inl zF))] := hD
    refine tI (y := 0) hw ?_
    refine lv_istore_n (lv' := [(2, .int 0), (0, .ref h0), (1, .int p1)]) hx hb dX11_change_18 rfl hl (by decide) rfl (fun ls hl => ?_)
    refine lv_iconst (v := (-1)) hx hb dX11_change_19 (by decide) ?_
    refine lv_istore_n (lv' := [(3, .int (-1)), (2, .int 0), (0, .ref h0), (1, .int p1)]) hx hb dX11_change_20 rfl hl (by decide) rfl (fun ls hl => ?_)
    refine lv_iconst (v := 0) hx hb dX11_change_21 (by decide) ?_
    refine lv_istore (lv' := [(4, .int 0), (3, .int (-1)), (2, .int 0), (0, .ref h0), (1, .int p1)]) hx hb dX11_change_22 hl (by decide) rfl (fun ls hl => ?_)
    refine lv_iload hx hb dX11_change_24 (lv_at hl 0 rfl) ?_
    refine lv_aload_n hx hb dX11_change_26 rfl (lv_at hl 3 rfl) ?_
    refine va_get (D := (dC, dI)) (ci := 11) (v := .int 0) (C := RX11) (T := TX11) (N := 79) hx hb hts inB_11 hown hE.1 hP 0 rfl rfl 48 (by decide) (hts _ k_1368) (fun _ h9 => h9) rfl dX11_change_27 ?_
    refine lv_icmp_ge (tgt := 134) hx hb dX11_change_30 (by decide) (fun _ => ?_) (fun c0 => absurd (by decide) c0)
    refine lv_iload_n hx hb dX11_change_134 rfl (lv_at hl 1 rfl) ?_
    refine lv_if_ge (tgt := 142) hx hb dX11_change_135 (by decide) (fun c0 => absurd c0 (by decide)) (fun _ => ?_)
    refine lv_iconst (v := (-1)) hx hb dX11_change_138 (by decide) ?_
    refine lv_goto (tgt := 166) hx hb dX11_change_139 (by decide) ?_
    exact ret (-1) () _ _ _ _ _ _ rfl (pt_X11_change_320 p1 c1 c1) (hP.sub [] rfl) (hD.sub [] (by decide) rfl) hS dX11_change_166 (Nat.le_of_ble_eq_true rfl) (Nat.le_of_ble_eq_true rfl)
  · skip
    refine caSi (n := 3) (wr := [(h0, .inr (11, mFs r mv0)), ((r 59), .inl (cy 1, 39, .inl zF)), ((r 60), .inl (cy 1, 39, .inl zF))]) (rest := []) hx hb hml hown hts hE hP hD hS hA (cnX11_isIn_5 l dC dI cy p1 c1) k_1736 k_1737 k_114 k_1738 (by decide +kernel) ⟨Nat.le_of_ble_eq_true rfl, Nat.le_of_ble_eq_true rfl⟩ [] [0, 1, 2] rfl rfl rfl (by decide) (by decide) (by decide) rfl hl.1 rfl (Nat.le_of_ble_eq_true rfl) dX11_change_3 ⟨Nat.le_of_ble_eq_true rfl, Nat.le_of_ble_eq_true rfl⟩ (fun rr u H locs hw hP hD hS => ?_)
    have hP : va_P (dC, dI) vwCl [(h0, .inr (11, mFs r mv0)), ((r 59), .inl (cy 1, 39, .inl zF)), ((r 60), .inl (cy 1, 39, .inl zF))] H := hP
    have hD : va_D A [(h0, .inr (11, mFs r mv0)), ((r 59), .inl (cy 1, 39, .inl zF)), ((r 60), .inl (cy 1, 39, .inl zF))] := hD
    refine tI (y := 0) hw ?_
    refine lv_if_ne (tgt := 11) hx hb dX11_change_6 (by decide) (fun c0 => absurd (by decide) c0) (fun _ => ?_)
    refine lv_iconst (v := (-1)) hx hb dX11_change_9 (by decide) ?_
    exact ret (-1) () _ _ _ _ _ _ rfl (pt_X11_change_321 p1 c1) (hP.sub [] rfl) (hD.sub [] (by decide) rfl) hS dX11_change_10 (Nat.le_of_ble_eq_true rfl) (Nat.le_of_ble_eq_true rfl)
set_option maxHeartbeats 4000000 in
set_option maxRecDepth 100000 in
theorem cnX1_wearers_1 (l : Launch) (dC : Nat → ClassId) (dI : Nat → Nat → Nat) (cy : Nat → ClassId) (h0 : Nat) (h1 : Nat) (b0 : Nat) (b1 : Nat) (b2 : Nat) (b3 : Nat) : ctI l (dC, dI) cy yX1_wearers cX1_wearers 3 .int 1 60 0 0 Unit [.ref h0] [(h0, .inr (1, [.ref h1, .ref b0])), (h1, .inr (7, [.ref b1, .ref b2, .ref b3, .int 0, .int 0, .int 10, .int 150, .int 2, .int 0, .int 0]))] (fun r _ => r = 0) (fun u => [(h0, .inr (1, [.ref h1, .ref b0])), (h1, .inr (7, [.ref b1, .ref b2, .ref b3, .int 0, .int 0, .int 10, .int 150, .int 2, .int 0, .int 0]))]) := by
  refine ctI_of (by decide) (Nat.le_of_ble_eq_true rfl) (fun p e s m below meth c A ls Q hx hb hml hts hown hE hP hD hA hl ret => ?_)
  have hown : s.vm.findClass RX1 = some m.cls := hown
  have hS : va_S A s.heap s.heap [] := va_S.rf
  have hl : lv_has ls 3 [(0, .ref h0)] := hl
  refine lv_iconst (v := 0) hx hb dX1_wearers_0 (by decide) ?_
  refine lv_istore_n (lv' := [(1, .int 0), (0, .ref h0)]) hx hb dX1_wearers_1 rfl hl (by decide) rfl (fun ls hl => ?_)
  refine lv_iconst (v := 0) hx hb dX1_wearers_2 (by decide) ?_
  refine lv_istore_n (lv' := [(2, .int 0), (1, .int 0), (0, .ref h0)]) hx hb dX1_wearers_3 rfl hl (by decide) rfl (fun ls hl => ?_)
  refine lv_iload_n hx hb dX1_wearers_4 rfl (lv_at hl 0 rfl) ?_
  refine lv_aload_n hx hb dX1_wearers_5 rfl (lv_at hl 2 rfl) ?_
  refine va_get (D := (dC, dI)) (ci := 1) (v := .ref h1) (C := RX1) (T := TX1) (N := 2) hx hb hts inB_1 hown hE.1 hP 0 rfl rfl 0 (by decide) (hts _ k_318) (fun _ h9 => h9) rfl dX1_wearers_6 ?_
  refine va_getN (D := (dC, dI)) (ci := 7) (v := .int 0) (C := RX7) (T := TX7) (N := 10) hx hb hts inB_7 hown hE.1 hP 1 rfl rfl 3 (by decide) (va_Nw.use rfl (hE.2 _ k_219)) (fun _ h9 => h9) rfl dX1_wearers_9 ?_
  refine lv_icmp_ge (tgt := 36) hx hb dX1_wearers_12 (by decide) (fun _ => ?_) (fun c0 => absurd (by decide) c0)
  refine lv_iload_n hx hb dX1_wearers_36 rfl (lv_at hl 1 rfl) ?_
  exact ret 0 () _ _ _ _ _ _ rfl rfl (hP.sub [0, 1] rfl) (hD.sub [0, 1] (by decide) rfl) hS dX1_wearers_37 (Nat.le_of_ble_eq_true rfl) (Nat.le_of_ble_eq_true rfl)
set_option maxHeartbeats 4000000 in
set_option maxRecDepth 100000 in
theorem cnX2_wideTogether_1 (l : Launch) (dC : Nat → ClassId) (dI : Nat → Nat → Nat) (cy : Nat → ClassId) (h0 : Nat) (h1 : Nat) (b0 : Nat) (b1 : Nat) (b2 : Nat) (b3 : Nat) (b4 : Nat) : ctI l (dC, dI) cy yX2_wideTogether cX2_wideTogether 4 .int 1 60 0 0 Unit [.ref h0, .int 0] [(h0, .inr (2, [.ref h1, .ref b0, .ref b1])), (h1, .inr (7, [.ref b2, .ref b3, .ref b4, .int 0, .int 0, .int 10, .int 150, .int 2, .int 0, .int 0]))] (fun r _ => r = 0) (fun u => [(h0, .inr (2, [.ref h1, .ref b0, .ref b1])), (h1, .inr (7, [.ref b2, .ref b3, .ref b4, .int 0, .int 0, .int 10, .int 150, .int 2, .int 0, .int 0]))]) := by
  refine ctI_of (by decide) (Nat.le_of_ble_eq_true rfl) (fun p e s m below meth c A ls Q hx hb hml hts hown hE hP hD hA hl ret => ?_)
  have hown : s.vm.findClass RX2 = some m.cls := hown
  have hS : va_S A s.heap s.heap [] := va_S.rf
  have hl : lv_has ls 4 [(0, .ref h0), (1, .int 0)] := hl
  refine lv_iconst (v := 0) hx hb dX2_wideTogether_0 (by decide) ?_
  refine lv_istore_n (lv' := [(2, .int 0), (0, .ref h0), (1, .int 0)]) hx hb dX2_wideTogether_1 rfl hl (by decide) rfl (fun ls hl => ?_)
  refine lv_iconst (v := 0) hx hb dX2_wideTogether_2 (by decide) ?_
  refine lv_istore_n (lv' := [(3, .int 0), (2, .int 0), (0, .ref h0), (1, .int 0)]) hx hb dX2_wideTogether_3 rfl hl (by decide) rfl (fun ls hl => ?_)
  refine lv_iload_n hx hb dX2_wideTogether_4 rfl (lv_at hl 0 rfl) ?_
  refine lv_aload_n hx hb dX2_wideTogether_5 rfl (lv_at hl 2 rfl) ?_
  refine va_get (D := (dC, dI)) (ci := 2) (v := .ref h1) (C := RX2) (T := TX2) (N := 3) hx hb hts inB_2 hown hE.1 hP 0 rfl rfl 0 (by decide) (hts _ k_414) (fun _ h9 => h9) rfl dX2_wideTogether_6 ?_
  refine va_getN (D := (dC, dI)) (ci := 7) (v := .int 0) (C := RX7) (T := TX7) (N := 10) hx hb hts inB_7 hown hE.1 hP 1 rfl rfl 3 (by decide) (va_Nw.use rfl (hE.2 _ k_213)) (fun _ h9 => h9) rfl dX2_wideTogether_9 ?_
  refine lv_icmp_ge (tgt := 48) hx hb dX2_wideTogether_12 (by decide) (fun _ => ?_) (fun c0 => absurd (by decide) c0)
  refine lv_iload_n hx hb dX2_wideTogether_48 rfl (lv_at hl 1 rfl) ?_
  exact ret 0 () _ _ _ _ _ _ rfl rfl (hP.sub [0, 1] rfl) (hD.sub [0, 1] (by decide) rfl) hS dX2_wideTogether_49 (Nat.le_of_ble_eq_true rfl) (Nat.le_of_ble_eq_true rfl)
set_option maxHeartbeats 4000000 in
set_option maxRecDepth 100000 in
theorem cnJ6_bitCount_0f7a4_2 (l : Launch) (dC : Nat → ClassId) (dI : Nat → Nat → Nat) (cy : Nat → ClassId) (p0 : Int32) : ctI l (dC, dI) cy yJ6_bitCount_0f7a4 cJ6_bitCount_0f7a4 1 .int 1 60 0 0 Unit [.int p0] [] (fun _ _ => True) (fun u => []) := by
  refine ctI_of (by decide) (Nat.le_of_ble_eq_true rfl) (fun p e s m below meth c A ls Q hx hb hml hts hown hE hP hD hA hl ret => ?_)
  have hown : s.vm.findClass RJ6 = some m.cls := hown
  have hS : va_S A s.heap s.heap [] := va_S.rf
  have hl : lv_has ls 1 [(0, .int p0)] := hl
  refine lv_iload_n hx hb dJ6_bitCount_0f7a4_0 rfl (lv_at hl 0 rfl) ?_
  refine lv_iload_n hx hb dJ6_bitCount_0f7a4_1 rfl (lv_at hl 0 rfl) ?_
  refine lv_iconst (v := 1) hx hb dJ6_bitCount_0f7a4_2 (by decide) ?_
  refine lv_iushr hx hb dJ6_bitCount_0f7a4_3 rfl ?_
  refine lv_topi (fun t1 et1 => ?_)
  refine lv_ldcw (v := 1431655765) hx hb hown (hts _ k_1045) dJ6_bitCount_0f7a4_4 ?_
  refine lv_iand hx hb dJ6_bitCount_0f7a4_7 ?_
  refine lv_topi (fun t2 et2 => ?_)
  refine lv_isub hx hb dJ6_bitCount_0f7a4_8 ?_
  refine lv_topi (fun t3 et3 => ?_)
  refine lv_istore_n (lv' := [(0, .int t3)]) hx hb dJ6_bitCount_0f7a4_9 rfl hl (by decide) rfl (fun ls hl => ?_)
  refine lv_iload_n hx hb dJ6_bitCount_0f7a4_10 rfl (lv_at hl 0 rfl) ?_
  refine lv_ldcw (v := 858993459) hx hb hown (hts _ k_1046) dJ6_bitCount_0f7a4_11 ?_
  refine lv_iand hx hb dJ6_bitCount_0f7a4_14 ?_
  refine lv_topi (fun t4 et4 => ?_)
  refine lv_iload_n hx hb dJ6_bitCount_0f7a4_15 rfl (lv_at hl 0 rfl) ?_
  refine lv_iconst (v := 2) hx hb dJ6_bitCount_0f7a4_16 (by decide) ?_
  refine lv_iushr hx hb dJ6_bitCount_0f7a4_17 rfl ?_
  refine lv_topi (fun t5 et5 => ?_)
  refine lv_ldcw (v := 858993459) hx hb hown (hts _ k_1046) dJ6_bitCount_0f7a4_18 ?_
  refine lv_iand hx hb dJ6_bitCount_0f7a4_21 ?_
  refine lv_topi (fun t6 et6 => ?_)
  refine lv_iadd hx hb dJ6_bitCount_0f7a4_22 ?_
  refine lv_topi (fun t7 et7 => ?_)
  refine lv_istore_n (lv' := [(0, .int t7)]) hx hb dJ6_bitCount_0f7a4_23 rfl hl (by decide) rfl (fun ls hl => ?_)
  refine lv_iload_n hx hb dJ6_bitCount_0f7a4_24 rfl (lv_at hl 0 rfl) ?_
  refine lv_iload_n hx hb dJ6_bitCount_0f7a4_25 rfl (lv_at hl 0 rfl) ?_
  refine lv_iconst (v := 4) hx hb dJ6_bitCount_0f7a4_26 (by decide) ?_
  refine lv_iushr hx hb dJ6_bitCount_0f7a4_27 rfl ?_
  refine lv_topi (fun t8 et8 => ?_)
  refine lv_iadd hx hb dJ6_bitCount_0f7a4_28 ?_
  refine lv_topi (fun t9 et9 => ?_)
  refine lv_ldcw (v := 252645135) hx hb hown (hts _ k_1047) dJ6_bitCount_0f7a4_29 ?_
  refine lv_iand hx hb dJ6_bitCount_0f7a4_32 ?_
  refine lv_topi (fun t10 et10 => ?_)
  refine lv_istore_n (lv' := [(0, .int t10)]) hx hb dJ6_bitCount_0f7a4_33 rfl hl (by decide) rfl (fun ls hl => ?_)
  refine lv_iload_n hx hb dJ6_bitCount_0f7a4_34 rfl (lv_at hl 0 rfl) ?_
  refine lv_iload_n hx hb dJ6_bitCount_0f7a4_35 rfl (lv_at hl 0 rfl) ?_
  refine lv_bipush (v := 8) hx hb dJ6_bitCount_0f7a4_36 (by decide) ?_
  refine lv_iushr hx hb dJ6_bitCount_0f7a4_38 rfl ?_
  refine lv_topi (fun t11 et11 => ?_)
  refine lv_iadd hx hb dJ6_bitCount_0f7a4_39 ?_
  refine lv_topi (fun t12 et12 => ?_)
  refine lv_istore_n (lv' := [(0, .int t12)]) hx hb dJ6_bitCount_0f7a4_40 rfl hl (by decide) rfl (fun ls hl => ?_)
  refine lv_iload_n hx hb dJ6_bitCount_0f7a4_41 rfl (lv_at hl 0 rfl) ?_
  refine lv_iload_n hx hb dJ6_bitCount_0f7a4_42 rfl (lv_at hl 0 rfl) ?_
  refine lv_bipush (v := 16) hx hb dJ6_bitCount_0f7a4_43 (by decide) ?_
  refine lv_iushr hx hb dJ6_bitCount_0f7a4_45 rfl ?_
  refine lv_topi (fun t13 et13 => ?_)
  refine lv_iadd hx hb dJ6_bitCount_0f7a4_46 ?_
  refine lv_topi (fun t14 et14 => ?_)
  refine lv_istore_n (lv' := [(0, .int t14)]) hx hb dJ6_bitCount_0f7a4_47 rfl hl (by decide) rfl (fun ls hl => ?_)
  refine lv_iload_n hx hb dJ6_bitCount_0f7a4_48 rfl (lv_at hl 0 rfl) ?_
  refine lv_bipush (v := 63) hx hb dJ6_bitCount_0f7a4_49 (by decide) ?_
  refine lv_iand hx hb dJ6_bitCount_0f7a4_51 ?_
  refine lv_topi (fun t15 et15 => ?_)
  exact ret t15 () _ _ _ _ _ _ rfl trivial (hP.sub [] rfl) (hD.sub [] (by decide) rfl) hS dJ6_bitCount_0f7a4_52 (Nat.le_of_ble_eq_true rfl) (Nat.le_of_ble_eq_true rfl)
theorem fb_rng (x : Int32) : -2147483648 ≤ x.toInt ∧ x.toInt < 2147483648 := by
  have h1 := Int32.le_toInt x
  have h2 := Int32.toInt_lt x
  omega
theorem po_X2_frontOf_326 (p1 : Int32) (hv : (-2147483648) ≤ p1 ∧ p1 ≤ 0) (hv : (-2147483648) ≤ p1 ∧ p1 ≤ 0) : ¬ 0 < p1 := by have rg_p1 := fb_rng p1; simp only [fa_lt, fa_le, fa_eq, tl_m2147483648, tl_0] at *; omega
theorem po_X2_frontOf_327 (i1 : Nat) (gi1 : 1 ≤ i1) (hi1 : i1 ≤ 64) (c2 : 64 ≤ (nI (i1))) : i1 = 64 := by have ti_0 : (nI (i1)).toInt = (((i1 : Nat)) : Int) := nI_toInt (by omega); simp only [fa_lt, fa_le, fa_eq, tl_64, ti_0] at *; omega
theorem po_X2_frontOf_328 (i1 : Nat) (gi1 : 1 ≤ i1) (hi1 : i1 ≤ 64) (c2 : ¬ 64 ≤ (nI (i1))) : i1 < 64 := by have ti_0 : (nI (i1)).toInt = (((i1 : Nat)) : Int) := nI_toInt (by omega); simp only [fa_lt, fa_le, fa_eq, tl_64, ti_0] at *; omega
theorem po_X2_frontOf_329 (i1 : Nat) (gi1 : 1 ≤ i1) (hi1 : i1 ≤ 64) (c2 : ¬ 64 ≤ (nI (i1))) : ¬ (nI (i1)) = 0 := by have ti_0 : (nI (i1)).toInt = (((i1 : Nat)) : Int) := nI_toInt (by omega); simp only [fa_lt, fa_le, fa_eq, tl_0, tl_64, ti_0] at *; omega
theorem po_X2_frontOf_330 (i1 : Nat) (gi1 : 1 ≤ i1) (hi1 : i1 ≤ 64) (c2 : ¬ 64 ≤ (nI (i1))) : ¬ (nI (i1)) = 0 := by have ti_0 : (nI (i1)).toInt = (((i1 : Nat)) : Int) := nI_toInt (by omega); simp only [fa_lt, fa_le, fa_eq, tl_0, tl_64, ti_0] at *; omega
set_option maxHeartbeats 4000000 in
set_option maxRecDepth 100000 in
theorem cnX2_frontOf_1 (l : Launch) (dC : Nat → ClassId) (dI : Nat → Nat → Nat) (cy : Nat → ClassId) (h0 : Nat) (h1 : Nat) (h2 : Nat) (b0 : Nat) (b1 : Nat) (b2 : Nat) (b3 : Nat) (b4 : Nat) (p1 : Int32) (hv : (-2147483648) ≤ p1 ∧ p1 ≤ 0) : ctI l (dC, dI) cy yX2_frontOf cX2_frontOf 6 .int 2 83 0 0 Unit [.ref h0, .int p1] [(h0, .inr (2, [.ref h2, .ref h1, .ref b0])), (h1, .inr (1, [.ref h2, .ref b1])), (h2, .inr (7, [.ref b2, .ref b3, .ref b4, .int 0, .int 0, .int 10, .int 150, .int 2, .int 0, .int 0]))] (fun r _ => r = 0) (fun u => [(h0, .inr (2, [.ref h2, .ref h1, .ref b0])), (h1, .inr (1, [.ref h2, .ref b1])), (h2, .inr (7, [.ref b2, .ref b3, .ref b4, .int 0, .int 0, .int 10, .int 150, .int 2, .int 0, .int 0]))]) := by
  refine ctI_of (by decide) (Nat.le_of_ble_eq_true rfl) (fun p e s m below meth c A ls Q hx hb hml hts hown hE hP hD hA hl ret => ?_)
  have hown : s.vm.findClass RX2 = some m.cls := hown
  have hS : va_S A s.heap s.heap [] := va_S.rf
  have hl : lv_has ls 6 [(0, .ref h0), (1, .int p1)] := hl
  refine lv_iconst (v := (-1)) hx hb dX2_frontOf_0 (by decide) ?_
  refine lv_istore_n (lv' := [(2, .int (-1)), (0, .ref h0), (1, .int p1)]) hx hb dX2_frontOf_1 rfl hl (by decide) rfl (fun ls hl => ?_)
  refine lv_aload_n hx hb dX2_frontOf_2 rfl (lv_at hl 1 rfl) ?_
  refine va_get (D := (dC, dI)) (ci := 2) (v := .ref h1) (C := RX2) (T := TX2) (N := 3) hx hb hts inB_2 hown hE.1 hP 0 rfl rfl 1 (by decide) (hts _ k_415) (fun _ h9 => h9) rfl dX2_frontOf_3 ?_
  refine caVi (n := 0) (wr := [(h0, .inr (2, [.ref h2, .ref h1, .ref b0]))]) (rest := []) hx hb hml hown hts hE hP hD hS hA (cnX1_wearers_1 l dC dI cy h1 h2 b1 b2 b3 b4) k_1060 k_1061 k_1062 k_106 k_1063 (by decide +kernel) ⟨Nat.le_of_ble_eq_true rfl, Nat.le_of_ble_eq_true rfl⟩ [1, 2] [0] rfl rfl rfl (by decide) (by decide) (by decide) 0 1 rfl rfl rfl hl.1 rfl (Nat.le_of_ble_eq_true rfl) dX2_frontOf_6 ⟨Nat.le_of_ble_eq_true rfl, Nat.le_of_ble_eq_true rfl⟩ (fun rr u H locs hw hP hD hS => ?_)
  have hP : va_P (dC, dI) vwCl [(h0, .inr (2, [.ref h2, .ref h1, .ref b0])), (h1, .inr (1, [.ref h2, .ref b1])), (h2, .inr (7, [.ref b2, .ref b3, .ref b4, .int 0, .int 0, .int 10, .int 150, .int 2, .int 0, .int 0]))] H := hP
  have hD : va_D A [(h0, .inr (2, [.ref h2, .ref h1, .ref b0])), (h1, .inr (1, [.ref h2, .ref b1])), (h2, .inr (7, [.ref b2, .ref b3, .ref b4, .int 0, .int 0, .int 10, .int 150, .int 2, .int 0, .int 0]))] := hD
  refine tI (y := 0) hw ?_
  refine lv_iconst (v := (-1)) hx hb dX2_frontOf_9 (by decide) ?_
  refine lv_ixor hx hb dX2_frontOf_10 ?_
  refine tI (y := (-1)) (by decide) ?_
  refine lv_istore_n (lv' := [(3, .int (-1)), (2, .int (-1)), (0, .ref h0), (1, .int p1)]) hx hb dX2_frontOf_11 rfl hl (by decide) rfl (fun ls hl => ?_)
  refine lv_iconst (v := 0) hx hb dX2_frontOf_12 (by decide) ?_
  refine lv_istore (lv' := [(4, .int 0), (3, .int (-1)), (2, .int (-1)), (0, .ref h0), (1, .int p1)]) hx hb dX2_frontOf_13 hl (by decide) rfl (fun ls hl => ?_)
  refine lv_iload hx hb dX2_frontOf_15 (lv_at hl 0 rfl) ?_
  refine lv_bipush (v := 64) hx hb dX2_frontOf_17 (by decide) ?_
  refine lv_icmp_ge (tgt := 77) hx hb dX2_frontOf_19 (by decide) (fun c0 => absurd c0 (by decide)) (fun _ => ?_)
  refine lv_iload_n hx hb dX2_frontOf_22 rfl (lv_at hl 2 rfl) ?_
  refine lv_iconst (v := (-1)) hx hb dX2_frontOf_23 (by decide) ?_
  refine lv_icmp_eq (tgt := 39) hx hb dX2_frontOf_24 (by decide) (fun _ => ?_) (fun c0 => absurd (by decide) c0)
  refine lv_iconst (v := 1) hx hb dX2_frontOf_39 (by decide) ?_
  refine lv_goto (tgt := 44) hx hb dX2_frontOf_40 (by decide) ?_
  refine lv_istore (lv' := [(5, .int 1), (4, .int 0), (3, .int (-1)), (2, .int (-1)), (0, .ref h0), (1, .int p1)]) hx hb dX2_frontOf_44 hl (by decide) rfl (fun ls hl => ?_)
  refine lv_iload hx hb dX2_frontOf_46 (lv_at hl 1 rfl) ?_
  refine lv_iload_n hx hb dX2_frontOf_48 rfl (lv_at hl 2 rfl) ?_
  refine lv_iand hx hb dX2_frontOf_49 ?_
  refine tI (y := 0) (by decide) ?_
  refine lv_if_ne (tgt := 71) hx hb dX2_frontOf_50 (by decide) (fun c0 => absurd (by decide) c0) (fun _ => ?_)
  refine lv_iload hx hb dX2_frontOf_53 (lv_at hl 0 rfl) ?_
  refine lv_if_eq (tgt := 71) hx hb dX2_frontOf_55 (by decide) (fun c0 => absurd c0 (by decide)) (fun _ => ?_)
  refine lv_aload_n hx hb dX2_frontOf_58 rfl (lv_at hl 4 rfl) ?_
  refine lv_iload hx hb dX2_frontOf_59 (lv_at hl 1 rfl) ?_
  refine caVi (n := 1) (wr := [(h1, .inr (1, [.ref h2, .ref b1]))]) (rest := []) hx hb hml hown hts hE hP hD hS hA (cnX2_wideTogether_1 l dC dI cy h0 h2 h1 b0 b2 b3 b4) k_1065 k_1066 k_1067 k_110 k_1068 (by decide +kernel) ⟨Nat.le_of_ble_eq_true rfl, Nat.le_of_ble_eq_true rfl⟩ [0, 2] [1] rfl rfl rfl (by decide) (by decide) (by decide) 0 2 rfl rfl rfl hl.1 rfl (Nat.le_of_ble_eq_true rfl) dX2_frontOf_61 ⟨Nat.le_of_ble_eq_true rfl, Nat.le_of_ble_eq_true rfl⟩ (fun rr u H locs hw hP hD hS => ?_)
  have hP : va_P (dC, dI) vwCl [(h1, .inr (1, [.ref h2, .ref b1])), (h0, .inr (2, [.ref h2, .ref h1, .ref b0])), (h2, .inr (7, [.ref b2, .ref b3, .ref b4, .int 0, .int 0, .int 10, .int 150, .int 2, .int 0, .int 0]))] H := hP
  have hD : va_D A [(h1, .inr (1, [.ref h2, .ref b1])), (h0, .inr (2, [.ref h2, .ref h1, .ref b0])), (h2, .inr (7, [.ref b2, .ref b3, .ref b4, .int 0, .int 0, .int 10, .int 150, .int 2, .int 0, .int 0]))] := hD
  refine tI (y := 0) hw ?_
  refine lv_iload_n hx hb dX2_frontOf_64 rfl (lv_at hl 5 rfl) ?_
  refine lv_icmp_lt (tgt := 71) hx hb dX2_frontOf_65 (by decide) (fun c0 => absurd c0 (po_X2_frontOf_326 p1 hv hv)) (fun _ => ?_)
  refine lv_iload hx hb dX2_frontOf_68 (lv_at hl 1 rfl) ?_
  refine lv_istore_n (lv' := [(2, .int 0), (5, .int 1), (4, .int 0), (3, .int (-1)), (0, .ref h0), (1, .int p1)]) hx hb dX2_frontOf_70 rfl hl (by decide) rfl (fun ls hl => ?_)
  refine lv_iinc (v := 1) (lv' := [(4, .int 1), (2, .int 0), (5, .int 1), (3, .int (-1)), (0, .ref h0), (1, .int p1)]) hx hb dX2_frontOf_71 hl (k := 2) rfl (by decide) (by decide) rfl (fun ls hl => ?_)
  refine lv_goto (tgt := 15) hx hb dX2_frontOf_74 (by decide) ?_
  have lp1 : ∀ (n i1 : Nat), 1 ≤ i1 → i1 ≤ 64 → 64 < i1 + n → ∀ (H : Heap) (locs : List Loc) (ls : Array Slot), va_P (dC, dI) vwCl [(h1, .inr (1, [.ref h2, .ref b1])), (h0, .inr (2, [.ref h2, .ref h1, .ref b0])), (h2, .inr (7, [.ref b2, .ref b3, .ref b4, .int 0, .int 0, .int 10, .int 150, .int 2, .int 0, .int 0]))] H → va_D A [(h1, .inr (1, [.ref h2, .ref b1])), (h0, .inr (2, [.ref h2, .ref h1, .ref b0])), (h2, .inr (7, [.ref b2, .ref b3, .ref b4, .int 0, .int 0, .int 10, .int 150, .int 2, .int 0, .int 0]))] → va_S A s.heap H locs → lv_has ls 6 [(4, .int (nI (i1))), (2, .int 0), (3, .int (-1)), (0, .ref h0), (1, .int p1)] → W p l e { frames := 2, cells := 0, slots := 0, locals := 83 } s m ([.ref h0, .int p1] : List Value).toArray below meth c H locs 0 0 Q (F0 m 15 ls []) := by
    intro n
    induction n with
    | zero => intro i1 h0 h1 h2; exact absurd h2 (by omega)
    | succ n ih1 =>
      intro i1 hloi1 hi1 hin H locs ls hP hD hS hl
      refine lv_iload hx hb dX2_frontOf_15 (lv_at hl 0 rfl) ?_
      refine lv_bipush (v := 64) hx hb dX2_frontOf_17 (by decide) ?_
      refine lv_icmp_ge (tgt := 77) hx hb dX2_frontOf_19 (by decide) (fun c2 => ?_) (fun c2 => ?_)
      · skip
        have hsi1 : i1 = 64 := (po_X2_frontOf_327 i1 hloi1 hi1 c2)
        subst hsi1
        refine lv_iload_n hx hb dX2_frontOf_77 rfl (lv_at hl 1 rfl) ?_
        exact ret 0 () _ _ _ _ _ _ rfl rfl (hP.sub [1, 0, 2] rfl) (hD.sub [1, 0, 2] (by decide) rfl) hS dX2_frontOf_78 (Nat.le_of_ble_eq_true rfl) (Nat.le_of_ble_eq_true rfl)
      · skip
        have hsi1 : i1 < 64 := (po_X2_frontOf_328 i1 hloi1 hi1 c2)
        refine lv_iload_n hx hb dX2_frontOf_22 rfl (lv_at hl 1 rfl) ?_
        refine lv_iconst (v := (-1)) hx hb dX2_frontOf_23 (by decide) ?_
        refine lv_icmp_eq (tgt := 39) hx hb dX2_frontOf_24 (by decide) (fun c0 => absurd c0 (by decide)) (fun _ => ?_)
        refine lv_iload hx hb dX2_frontOf_27 (lv_at hl 0 rfl) ?_
        refine caSi (n := 1) (wr := [(h1, .inr (1, [.ref h2, .ref b1])), (h0, .inr (2, [.ref h2, .ref h1, .ref b0])), (h2, .inr (7, [.ref b2, .ref b3, .ref b4, .int 0, .int 0, .int 10, .int 150, .int 2, .int 0, .int 0]))]) (rest := []) hx hb hml hown hts hE hP hD hS hA (cnJ6_bitCount_0f7a4_2 l dC dI cy (nI (i1))) k_1064 k_1043 k_121 k_1044 (by decide +kernel) ⟨Nat.le_of_ble_eq_true rfl, Nat.le_of_ble_eq_true rfl⟩ [] [0, 1, 2] rfl rfl rfl (by decide) (by decide) (by decide) rfl hl.1 rfl (Nat.le_of_ble_eq_true rfl) dX2_frontOf_29 ⟨Nat.le_of_ble_eq_true rfl, Nat.le_of_ble_eq_true rfl⟩ (fun t3 u H locs hw hP hD hS => ?_)
        have hP : va_P (dC, dI) vwCl [(h1, .inr (1, [.ref h2, .ref b1])), (h0, .inr (2, [.ref h2, .ref h1, .ref b0])), (h2, .inr (7, [.ref b2, .ref b3, .ref b4, .int 0, .int 0, .int 10, .int 150, .int 2, .int 0, .int 0]))] H := hP
        have hD : va_D A [(h1, .inr (1, [.ref h2, .ref b1])), (h0, .inr (2, [.ref h2, .ref h1, .ref b0])), (h2, .inr (7, [.ref b2, .ref b3, .ref b4, .int 0, .int 0, .int 10, .int 150, .int 2, .int 0, .int 0]))] := hD
        refine lv_iload_n hx hb dX2_frontOf_32 rfl (lv_at hl 1 rfl) ?_
        refine caSi (n := 1) (wr := [(h1, .inr (1, [.ref h2, .ref b1])), (h0, .inr (2, [.ref h2, .ref h1, .ref b0])), (h2, .inr (7, [.ref b2, .ref b3, .ref b4, .int 0, .int 0, .int 10, .int 150, .int 2, .int 0, .int 0]))]) (rest := [.int t3]) hx hb hml hown hts hE hP hD hS hA (cnJ6_bitCount_0f7a4_1 l dC dI cy ) k_1064 k_1043 k_121 k_1044 (by decide +kernel) ⟨Nat.le_of_ble_eq_true rfl, Nat.le_of_ble_eq_true rfl⟩ [] [0, 1, 2] rfl rfl rfl (by decide) (by decide) (by decide) rfl hl.1 rfl (Nat.le_of_ble_eq_true rfl) dX2_frontOf_33 ⟨Nat.le_of_ble_eq_true rfl, Nat.le_of_ble_eq_true rfl⟩ (fun rr u H locs hw hP hD hS => ?_)
        have hP : va_P (dC, dI) vwCl [(h1, .inr (1, [.ref h2, .ref b1])), (h0, .inr (2, [.ref h2, .ref h1, .ref b0])), (h2, .inr (7, [.ref b2, .ref b3, .ref b4, .int 0, .int 0, .int 10, .int 150, .int 2, .int 0, .int 0]))] H := hP
        have hD : va_D A [(h1, .inr (1, [.ref h2, .ref b1])), (h0, .inr (2, [.ref h2, .ref h1, .ref b0])), (h2, .inr (7, [.ref b2, .ref b3, .ref b4, .int 0, .int 0, .int 10, .int 150, .int 2, .int 0, .int 0]))] := hD
        refine tI (y := 0) hw ?_
        refine lv_icmp_ge (tgt := 43) hx hb dX2_frontOf_36 (by decide) (fun c4 => ?_) (fun c4 => ?_)
        · skip
          refine lv_iconst (v := 0) hx hb dX2_frontOf_43 (by decide) ?_
          refine lv_istore (lv' := [(5, .int 0), (4, .int (nI (i1))), (2, .int 0), (3, .int (-1)), (0, .ref h0), (1, .int p1)]) hx hb dX2_frontOf_44 hl (by decide) rfl (fun ls hl => ?_)
          refine lv_iload hx hb dX2_frontOf_46 (lv_at hl 1 rfl) ?_
          refine lv_iload_n hx hb dX2_frontOf_48 rfl (lv_at hl 3 rfl) ?_
          refine lv_iand hx hb dX2_frontOf_49 ?_
          refine tI (y := (nI (i1))) (and_m1 _) ?_
          refine lv_if_ne (tgt := 71) hx hb dX2_frontOf_50 (by decide) (fun _ => ?_) (fun c0 => absurd c0 (po_X2_frontOf_329 i1 hloi1 hi1 c2))
          refine lv_iinc (v := (nI (i1 + 1))) (lv' := [(4, .int (nI (i1 + 1))), (5, .int 0), (2, .int 0), (3, .int (-1)), (0, .ref h0), (1, .int p1)]) hx hb dX2_frontOf_71 hl (k := 1) rfl (nI_1 (i1)) (by decide) rfl (fun ls hl => ?_)
          refine lv_goto (tgt := 15) hx hb dX2_frontOf_74 (by decide) ?_
          exact ih1 (i1 + 1) (by omega) (by omega) (by omega) _ _ _ (hP.sub [0, 1, 2] rfl) (hD.sub [0, 1, 2] (by decide) rfl) hS (lv_sub hl [0, 2, 3, 4, 5] rfl)
        · skip
          refine lv_iconst (v := 1) hx hb dX2_frontOf_39 (by decide) ?_
          refine lv_goto (tgt := 44) hx hb dX2_frontOf_40 (by decide) ?_
          refine lv_istore (lv' := [(5, .int 1), (4, .int (nI (i1))), (2, .int 0), (3, .int (-1)), (0, .ref h0), (1, .int p1)]) hx hb dX2_frontOf_44 hl (by decide) rfl (fun ls hl => ?_)
          refine lv_iload hx hb dX2_frontOf_46 (lv_at hl 1 rfl) ?_
          refine lv_iload_n hx hb dX2_frontOf_48 rfl (lv_at hl 3 rfl) ?_
          refine lv_iand hx hb dX2_frontOf_49 ?_
          refine tI (y := (nI (i1))) (and_m1 _) ?_
          refine lv_if_ne (tgt := 71) hx hb dX2_frontOf_50 (by decide) (fun _ => ?_) (fun c0 => absurd c0 (po_X2_frontOf_330 i1 hloi1 hi1 c2))
          refine lv_iinc (v := (nI (i1 + 1))) (lv' := [(4, .int (nI (i1 + 1))), (5, .int 1), (2, .int 0), (3, .int (-1)), (0, .ref h0), (1, .int p1)]) hx hb dX2_frontOf_71 hl (k := 1) rfl (nI_1 (i1)) (by decide) rfl (fun ls hl => ?_)
          refine lv_goto (tgt := 15) hx hb dX2_frontOf_74 (by decide) ?_
          exact ih1 (i1 + 1) (by omega) (by omega) (by omega) _ _ _ (hP.sub [0, 1, 2] rfl) (hD.sub [0, 1, 2] (by decide) rfl) hS (lv_sub hl [0, 2, 3, 4, 5] rfl)
  exact lp1 65 1 (by decide) (by decide) (by decide) _ _ _ (hP.sub [0, 1, 2] rfl) (hD.sub [0, 1, 2] (by decide) rfl) hS (lv_sub hl [0, 1, 3, 4, 5] rfl)
theorem po_X2_frontOf_335 (p1 : Int32) (hv : ¬ ((-2147483648) ≤ p1 ∧ p1 ≤ 0)) : 0 < p1 := by have rg_p1 := fb_rng p1; simp only [fa_lt, fa_le, fa_eq, tl_m2147483648, tl_0] at *; omega
theorem po_X2_frontOf_336 (i1 : Nat) (gi1 : 1 ≤ i1) (hi1 : i1 ≤ 64) (c2 : 64 ≤ (nI (i1))) : i1 = 64 := by have ti_0 : (nI (i1)).toInt = (((i1 : Nat)) : Int) := nI_toInt (by omega); simp only [fa_lt, fa_le, fa_eq, tl_64, ti_0] at *; omega
theorem po_X2_frontOf_337 (i1 : Nat) (gi1 : 1 ≤ i1) (hi1 : i1 ≤ 64) (c2 : ¬ 64 ≤ (nI (i1))) : i1 < 64 := by have ti_0 : (nI (i1)).toInt = (((i1 : Nat)) : Int) := nI_toInt (by omega); simp only [fa_lt, fa_le, fa_eq, tl_64, ti_0] at *; omega
theorem po_X2_frontOf_338 (i1 : Nat) (gi1 : 1 ≤ i1) (hi1 : i1 ≤ 64) (c2 : ¬ 64 ≤ (nI (i1))) : ¬ (nI (i1)) = 0 := by have ti_0 : (nI (i1)).toInt = (((i1 : Nat)) : Int) := nI_toInt (by omega); simp only [fa_lt, fa_le, fa_eq, tl_0, tl_64, ti_0] at *; omega
set_option maxHeartbeats 4000000 in
set_option maxRecDepth 100000 in
theorem cnX2_frontOf_2 (l : Launch) (dC : Nat → ClassId) (dI : Nat → Nat → Nat) (cy : Nat → ClassId) (h0 : Nat) (h1 : Nat) (h2 : Nat) (b0 : Nat) (b1 : Nat) (b2 : Nat) (b3 : Nat) (b4 : Nat) (p1 : Int32) (hv : ¬ ((-2147483648) ≤ p1 ∧ p1 ≤ 0)) : ctI l (dC, dI) cy yX2_frontOf cX2_frontOf 6 .int 2 83 0 0 Unit [.ref h0, .int p1] [(h0, .inr (2, [.ref h2, .ref h1, .ref b0])), (h1, .inr (1, [.ref h2, .ref b1])), (h2, .inr (7, [.ref b2, .ref b3, .ref b4, .int 0, .int 0, .int 10, .int 150, .int 2, .int 0, .int 0]))] (fun r _ => r = (-1)) (fun u => [(h0, .inr (2, [.ref h2, .ref h1, .ref b0])), (h1, .inr (1, [.ref h2, .ref b1])), (h2, .inr (7, [.ref b2, .ref b3, .ref b4, .int 0, .int 0, .int 10, .int 150, .int 2, .int 0, .int 0]))]) := by
  refine ctI_of (by decide) (Nat.le_of_ble_eq_true rfl) (fun p e s m below meth c A ls Q hx hb hml hts hown hE hP hD hA hl ret => ?_)
  have hown : s.vm.findClass RX2 = some m.cls := hown
  have hS : va_S A s.heap s.heap [] := va_S.rf
  have hl : lv_has ls 6 [(0, .ref h0), (1, .int p1)] := hl
  refine lv_iconst (v := (-1)) hx hb dX2_frontOf_0 (by decide) ?_
  refine lv_istore_n (lv' := [(2, .int (-1)), (0, .ref h0), (1, .int p1)]) hx hb dX2_frontOf_1 rfl hl (by decide) rfl (fun ls hl => ?_)
  refine lv_aload_n hx hb dX2_frontOf_2 rfl (lv_at hl 1 rfl) ?_
  refine va_get (D := (dC, dI)) (ci := 2) (v := .ref h1) (C := RX2) (T := TX2) (N := 3) hx hb hts inB_2 hown hE.1 hP 0 rfl rfl 1 (by decide) (hts _ k_415) (fun _ h9 => h9) rfl dX2_frontOf_3 ?_
  refine caVi (n := 0) (wr := [(h0, .inr (2, [.ref h2, .ref h1, .ref b0]))]) (rest := []) hx hb hml hown hts hE hP hD hS hA (cnX1_wearers_1 l dC dI cy h1 h2 b1 b2 b3 b4) k_1060 k_1061 k_1062 k_106 k_1063 (by decide +kernel) ⟨Nat.le_of_ble_eq_true rfl, Nat.le_of_ble_eq_true rfl⟩ [1, 2] [0] rfl rfl rfl (by decide) (by decide) (by decide) 0 1 rfl rfl rfl hl.1 rfl (Nat.le_of_ble_eq_true rfl) dX2_frontOf_6 ⟨Nat.le_of_ble_eq_true rfl, Nat.le_of_ble_eq_true rfl⟩ (fun rr u H locs hw hP hD hS => ?_)
  have hP : va_P (dC, dI) vwCl [(h0, .inr (2, [.ref h2, .ref h1, .ref b0])), (h1, .inr (1, [.ref h2, .ref b1])), (h2, .inr (7, [.ref b2, .ref b3, .ref b4, .int 0, .int 0, .int 10, .int 150, .int 2, .int 0, .int 0]))] H := hP
  have hD : va_D A [(h0, .inr (2, [.ref h2, .ref h1, .ref b0])), (h1, .inr (1, [.ref h2, .ref b1])), (h2, .inr (7, [.ref b2, .ref b3, .ref b4, .int 0, .int 0, .int 10, .int 150, .int 2, .int 0, .int 0]))] := hD
  refine tI (y := 0) hw ?_
  refine lv_iconst (v := (-1)) hx hb dX2_frontOf_9 (by decide) ?_
  refine lv_ixor hx hb dX2_frontOf_10 ?_
  refine tI (y := (-1)) (by decide) ?_
  refine lv_istore_n (lv' := [(3, .int (-1)), (2, .int (-1)), (0, .ref h0), (1, .int p1)]) hx hb dX2_frontOf_11 rfl hl (by decide) rfl (fun ls hl => ?_)
  refine lv_iconst (v := 0) hx hb dX2_frontOf_12 (by decide) ?_
  refine lv_istore (lv' := [(4, .int 0), (3, .int (-1)), (2, .int (-1)), (0, .ref h0), (1, .int p1)]) hx hb dX2_frontOf_13 hl (by decide) rfl (fun ls hl => ?_)
  refine lv_iload hx hb dX2_frontOf_15 (lv_at hl 0 rfl) ?_
  refine lv_bipush (v := 64) hx hb dX2_frontOf_17 (by decide) ?_
  refine lv_icmp_ge (tgt := 77) hx hb dX2_frontOf_19 (by decide) (fun c0 => absurd c0 (by decide)) (fun _ => ?_)
  refine lv_iload_n hx hb dX2_frontOf_22 rfl (lv_at hl 2 rfl) ?_
  refine lv_iconst (v := (-1)) hx hb dX2_frontOf_23 (by decide) ?_
  refine lv_icmp_eq (tgt := 39) hx hb dX2_frontOf_24 (by decide) (fun _ => ?_) (fun c0 => absurd (by decide) c0)
  refine lv_iconst (v := 1) hx hb dX2_frontOf_39 (by decide) ?_
  refine lv_goto (tgt := 44) hx hb dX2_frontOf_40 (by decide) ?_
  refine lv_istore (lv' := [(5, .int 1), (4, .int 0), (3, .int (-1)), (2, .int (-1)), (0, .ref h0), (1, .int p1)]) hx hb dX2_frontOf_44 hl (by decide) rfl (fun ls hl => ?_)
  refine lv_iload hx hb dX2_frontOf_46 (lv_at hl 1 rfl) ?_
  refine lv_iload_n hx hb dX2_frontOf_48 rfl (lv_at hl 2 rfl) ?_
  refine lv_iand hx hb dX2_frontOf_49 ?_
  refine tI (y := 0) (by decide) ?_
  refine lv_if_ne (tgt := 71) hx hb dX2_frontOf_50 (by decide) (fun c0 => absurd (by decide) c0) (fun _ => ?_)
  refine lv_iload hx hb dX2_frontOf_53 (lv_at hl 0 rfl) ?_
  refine lv_if_eq (tgt := 71) hx hb dX2_frontOf_55 (by decide) (fun c0 => absurd c0 (by decide)) (fun _ => ?_)
  refine lv_aload_n hx hb dX2_frontOf_58 rfl (lv_at hl 4 rfl) ?_
  refine lv_iload hx hb dX2_frontOf_59 (lv_at hl 1 rfl) ?_
  refine caVi (n := 1) (wr := [(h1, .inr (1, [.ref h2, .ref b1]))]) (rest := []) hx hb hml hown hts hE hP hD hS hA (cnX2_wideTogether_1 l dC dI cy h0 h2 h1 b0 b2 b3 b4) k_1065 k_1066 k_1067 k_110 k_1068 (by decide +kernel) ⟨Nat.le_of_ble_eq_true rfl, Nat.le_of_ble_eq_true rfl⟩ [0, 2] [1] rfl rfl rfl (by decide) (by decide) (by decide) 0 2 rfl rfl rfl hl.1 rfl (Nat.le_of_ble_eq_true rfl) dX2_frontOf_61 ⟨Nat.le_of_ble_eq_true rfl, Nat.le_of_ble_eq_true rfl⟩ (fun rr u H locs hw hP hD hS => ?_)
  have hP : va_P (dC, dI) vwCl [(h1, .inr (1, [.ref h2, .ref b1])), (h0, .inr (2, [.ref h2, .ref h1, .ref b0])), (h2, .inr (7, [.ref b2, .ref b3, .ref b4, .int 0, .int 0, .int 10, .int 150, .int 2, .int 0, .int 0]))] H := hP
  have hD : va_D A [(h1, .inr (1, [.ref h2, .ref b1])), (h0, .inr (2, [.ref h2, .ref h1, .ref b0])), (h2, .inr (7, [.ref b2, .ref b3, .ref b4, .int 0, .int 0, .int 10, .int 150, .int 2, .int 0, .int 0]))] := hD
  refine tI (y := 0) hw ?_
  refine lv_iload_n hx hb dX2_frontOf_64 rfl (lv_at hl 5 rfl) ?_
  refine lv_icmp_lt (tgt := 71) hx hb dX2_frontOf_65 (by decide) (fun _ => ?_) (fun c0 => absurd (po_X2_frontOf_335 p1 hv) c0)
  refine lv_iinc (v := 1) (lv' := [(4, .int 1), (5, .int 1), (3, .int (-1)), (2, .int (-1)), (0, .ref h0), (1, .int p1)]) hx hb dX2_frontOf_71 hl (k := 1) rfl (by decide) (by decide) rfl (fun ls hl => ?_)
  refine lv_goto (tgt := 15) hx hb dX2_frontOf_74 (by decide) ?_
  have lp1 : ∀ (n i1 : Nat), 1 ≤ i1 → i1 ≤ 64 → 64 < i1 + n → ∀ (H : Heap) (locs : List Loc) (ls : Array Slot), va_P (dC, dI) vwCl [(h1, .inr (1, [.ref h2, .ref b1])), (h0, .inr (2, [.ref h2, .ref h1, .ref b0])), (h2, .inr (7, [.ref b2, .ref b3, .ref b4, .int 0, .int 0, .int 10, .int 150, .int 2, .int 0, .int 0]))] H → va_D A [(h1, .inr (1, [.ref h2, .ref b1])), (h0, .inr (2, [.ref h2, .ref h1, .ref b0])), (h2, .inr (7, [.ref b2, .ref b3, .ref b4, .int 0, .int 0, .int 10, .int 150, .int 2, .int 0, .int 0]))] → va_S A s.heap H locs → lv_has ls 6 [(4, .int (nI (i1))), (3, .int (-1)), (2, .int (-1)), (0, .ref h0), (1, .int p1)] → W p l e { frames := 2, cells := 0, slots := 0, locals := 83 } s m ([.ref h0, .int p1] : List Value).toArray below meth c H locs 0 0 Q (F0 m 15 ls []) := by
    intro n
    induction n with
    | zero => intro i1 h0 h1 h2; exact absurd h2 (by omega)
    | succ n ih1 =>
      intro i1 hloi1 hi1 hin H locs ls hP hD hS hl
      refine lv_iload hx hb dX2_frontOf_15 (lv_at hl 0 rfl) ?_
      refine lv_bipush (v := 64) hx hb dX2_frontOf_17 (by decide) ?_
      refine lv_icmp_ge (tgt := 77) hx hb dX2_frontOf_19 (by decide) (fun c2 => ?_) (fun c2 => ?_)
      · skip
        have hsi1 : i1 = 64 := (po_X2_frontOf_336 i1 hloi1 hi1 c2)
        subst hsi1
        refine lv_iload_n hx hb dX2_frontOf_77 rfl (lv_at hl 2 rfl) ?_
        exact ret (-1) () _ _ _ _ _ _ rfl rfl (hP.sub [1, 0, 2] rfl) (hD.sub [1, 0, 2] (by decide) rfl) hS dX2_frontOf_78 (Nat.le_of_ble_eq_true rfl) (Nat.le_of_ble_eq_true rfl)
      · skip
        have hsi1 : i1 < 64 := (po_X2_frontOf_337 i1 hloi1 hi1 c2)
        refine lv_iload_n hx hb dX2_frontOf_22 rfl (lv_at hl 2 rfl) ?_
        refine lv_iconst (v := (-1)) hx hb dX2_frontOf_23 (by decide) ?_
        refine lv_icmp_eq (tgt := 39) hx hb dX2_frontOf_24 (by decide) (fun _ => ?_) (fun c0 => absurd (by decide) c0)
        refine lv_iconst (v := 1) hx hb dX2_frontOf_39 (by decide) ?_
        refine lv_goto (tgt := 44) hx hb dX2_frontOf_40 (by decide) ?_
        refine lv_istore (lv' := [(5, .int 1), (4, .int (nI (i1))), (3, .int (-1)), (2, .int (-1)), (0, .ref h0), (1, .int p1)]) hx hb dX2_frontOf_44 hl (by decide) rfl (fun ls hl => ?_)
        refine lv_iload hx hb dX2_frontOf_46 (lv_at hl 1 rfl) ?_
        refine lv_iload_n hx hb dX2_frontOf_48 rfl (lv_at hl 2 rfl) ?_
        refine lv_iand hx hb dX2_frontOf_49 ?_
        refine tI (y := (nI (i1))) (and_m1 _) ?_
        refine lv_if_ne (tgt := 71) hx hb dX2_frontOf_50 (by decide) (fun _ => ?_) (fun c0 => absurd c0 (po_X2_frontOf_338 i1 hloi1 hi1 c2))
        refine lv_iinc (v := (nI (i1 + 1))) (lv' := [(4, .int (nI (i1 + 1))), (5, .int 1), (3, .int (-1)), (2, .int (-1)), (0, .ref h0), (1, .int p1)]) hx hb dX2_frontOf_71 hl (k := 1) rfl (nI_1 (i1)) (by decide) rfl (fun ls hl => ?_)
        refine lv_goto (tgt := 15) hx hb dX2_frontOf_74 (by decide) ?_
        exact ih1 (i1 + 1) (by omega) (by omega) (by omega) _ _ _ (hP.sub [0, 1, 2] rfl) (hD.sub [0, 1, 2] (by decide) rfl) hS (lv_sub hl [0, 2, 3, 4, 5] rfl)
  exact lp1 65 1 (by decide) (by decide) (by decide) _ _ _ (hP.sub [0, 1, 2] rfl) (hD.sub [0, 1, 2] (by decide) rfl) hS (lv_sub hl [0, 2, 3, 4, 5] rfl)
theorem pt_X10_front_343 (p1 : Int32) (p2 : Int32) (c1 : p1 < 0) : ((-1) : Int32) = F_front p1 p2 := by
  unfold F_front
  (repeat' split)
  all_goals first | rfl | assumption | (exfalso; simp only [fa_lt, fa_le, fa_eq, tl_m1, tl_0, tl_1] at *; omega) | (simp only [fa_lt, fa_le, fa_eq, tl_m1, tl_0, tl_1] at *; omega)
theorem pt_X10_front_344 (p1 : Int32) (p2 : Int32) (c1 : ¬ p1 < 0) (c2 : 999 < p1) : ((-1) : Int32) = F_front p1 p2 := by
  unfold F_front
  (repeat' split)
  all_goals first | rfl | assumption | (exfalso; simp only [fa_lt, fa_le, fa_eq, tl_m1, tl_0, tl_1, tl_999] at *; omega) | (simp only [fa_lt, fa_le, fa_eq, tl_m1, tl_0, tl_1, tl_999] at *; omega)
theorem pt_X10_front_345 (p1 : Int32) (p2 : Int32) (c1 : ¬ p1 < 0) (c2 : ¬ 999 < p1) (c3 : p2 < 0) : ((-1) : Int32) = F_front p1 p2 := by
  unfold F_front
  (repeat' split)
  all_goals first | rfl | assumption | (exfalso; simp only [fa_lt, fa_le, fa_eq, tl_m1, tl_0, tl_1, tl_999] at *; omega) | (simp only [fa_lt, fa_le, fa_eq, tl_m1, tl_0, tl_1, tl_999] at *; omega)
theorem pt_X10_front_348 (p1 : Int32) (p2 : Int32) (c1 : ¬ p1 < 0) (c2 : ¬ 999 < p1) (c3 : ¬ p2 < 0) (c4 : p2 ≤ 1) (c5 : (-2147483648) ≤ p1 ∧ p1 ≤ 0) (c5 : (-2147483648) ≤ p1 ∧ p1 ≤ 0) (c6 : p2 = 1) : (0 : Int32) = F_front p1 p2 := by
  unfold F_front
  (repeat' split)
  all_goals first | rfl | assumption | (exfalso; simp only [fa_lt, fa_le, fa_eq, tl_m2147483648, tl_m1, tl_0, tl_1, tl_999] at *; omega) | (simp only [fa_lt, fa_le, fa_eq, tl_m2147483648, tl_m1, tl_0, tl_1, tl_999] at *; omega)
theorem pt_X10_front_349 (p1 : Int32) (p2 : Int32) (c1 : ¬ p1 < 0) (c2 : ¬ 999 < p1) (c3 : ¬ p2 < 0) (c4 : p2 ≤ 1) (c5 : (-2147483648) ≤ p1 ∧ p1 ≤ 0) (c5 : (-2147483648) ≤ p1 ∧ p1 ≤ 0) (c6 : ¬ p2 = 1) : (0 : Int32) = F_front p1 p2 := by
  unfold F_front
  (repeat' split)
  all_goals first | rfl | assumption | (exfalso; simp only [fa_lt, fa_le, fa_eq, tl_m2147483648, tl_m1, tl_0, tl_1, tl_999] at *; omega) | (simp only [fa_lt, fa_le, fa_eq, tl_m2147483648, tl_m1, tl_0, tl_1, tl_999] at *; omega)
theorem pt_X10_front_352 (p1 : Int32) (p2 : Int32) (c1 : ¬ p1 < 0) (c2 : ¬ 999 < p1) (c3 : ¬ p2 < 0) (c4 : p2 ≤ 1) (c5 : ¬ ((-2147483648) ≤ p1 ∧ p1 ≤ 0)) (c7 : p2 = 1) : ((-1) : Int32) = F_front p1 p2 := by
  unfold F_front
  (repeat' split)
  all_goals first | rfl | assumption | (exfalso; simp only [fa_lt, fa_le, fa_eq, tl_m2147483648, tl_m1, tl_0, tl_1, tl_999] at *; omega) | (simp only [fa_lt, fa_le, fa_eq, tl_m2147483648, tl_m1, tl_0, tl_1, tl_999] at *; omega)
theorem pt_X10_front_353 (p1 : Int32) (p2 : Int32) (c1 : ¬ p1 < 0) (c2 : ¬ 999 < p1) (c3 : ¬ p2 < 0) (c4 : p2 ≤ 1) (c5 : ¬ ((-2147483648) ≤ p1 ∧ p1 ≤ 0)) (c7 : ¬ p2 = 1) : ((-1) : Int32) = F_front p1 p2 := by
  unfold F_front
  (repeat' split)
  all_goals first | rfl | assumption | (exfalso; simp only [fa_lt, fa_le, fa_eq, tl_m2147483648, tl_m1, tl_0, tl_1, tl_999] at *; omega) | (simp only [fa_lt, fa_le, fa_eq, tl_m2147483648, tl_m1, tl_0, tl_1, tl_999] at *; omega)
theorem pt_X10_front_354 (p1 : Int32) (p2 : Int32) (c1 : ¬ p1 < 0) (c2 : ¬ 999 < p1) (c3 : ¬ p2 < 0) (c4 : ¬ p2 ≤ 1) : ((-1) : Int32) = F_front p1 p2 := by
  unfold F_front
  (repeat' split)
  all_goals first | rfl | assumption | (exfalso; simp only [fa_lt, fa_le, fa_eq, tl_m1, tl_0, tl_1, tl_999] at *; omega) | (simp only [fa_lt, fa_le, fa_eq, tl_m1, tl_0, tl_1, tl_999] at *; omega)
set_option maxHeartbeats 4000000 in
set_option maxRecDepth 100000 in
theorem cnX10_front_1 (l : Launch) (dC : Nat → ClassId) (dI : Nat → Nat → Nat) (cy : Nat → ClassId) (h0 : Nat) (h1 : Nat) (h2 : Nat) (h3 : Nat) (b0 : Nat) (b1 : Nat) (b2 : Nat) (b3 : Nat) (b4 : Nat) (b5 : Nat) (b6 : Nat) (b7 : Nat) (b8 : Nat) (b9 : Nat) (b10 : Nat) (p1 : Int32) (p2 : Int32) : ctI l (dC, dI) cy yX10_front cX10_front 4 .int 3 108 0 0 Unit [.ref h0, .int p1, .int p2] [(h0, .inr (10, [.ref b0, .ref b1, .ref h3, .ref h2, .ref b2, .ref b3, .ref h1, .ref b4, .ref b5, .int 0])), (h1, .inr (2, [.ref h3, .ref h2, .ref b6])), (h2, .inr (1, [.ref h3, .ref b7])), (h3, .inr (7, [.ref b8, .ref b9, .ref b10, .int 0, .int 0, .int 10, .int 150, .int 2, .int 0, .int 0]))] (fun r _ => r = F_front p1 p2) (fun u => []) := by
  refine ctI_of (by decide) (Nat.le_of_ble_eq_true rfl) (fun p e s m below meth c A ls Q hx hb hml hts hown hE hP hD hA hl ret => ?_)
  have hown : s.vm.findClass RX10 = some m.cls := hown
  have hS : va_S A s.heap s.heap [] := va_S.rf
  have hl : lv_has ls 4 [(0, .ref h0), (1, .int p1), (2, .int p2)] := hl
  refine lv_iload_n hx hb dX10_front_0 rfl (lv_at hl 1 rfl) ?_
  refine lv_if_lt (tgt := 20) hx hb dX10_front_1 (by decide) (fun c1 => ?_) (fun c1 => ?_)
  · skip
    refine lv_iconst (v := (-1)) hx hb dX10_front_20 (by decide) ?_
    exact ret (-1) () _ _ _ _ _ _ rfl (pt_X10_front_343 p1 p2 c1) (hP.sub [] rfl) (hD.sub [] (by decide) rfl) hS dX10_front_21 (Nat.le_of_ble_eq_true rfl) (Nat.le_of_ble_eq_true rfl)
  · skip
    refine lv_iload_n hx hb dX10_front_4 rfl (lv_at hl 1 rfl) ?_
    refine lv_sipush (v := 999) hx hb dX10_front_5 (by decide) ?_
    refine lv_icmp_gt (tgt := 20) hx hb dX10_front_8 (by decide) (fun c2 => ?_) (fun c2 => ?_)
    · skip
      refine lv_iconst (v := (-1)) hx hb dX10_front_20 (by decide) ?_
      exact ret (-1) () _ _ _ _ _ _ rfl (pt_X10_front_344 p1 p2 c1 c2) (hP.sub [] rfl) (hD.sub [] (by decide) rfl) hS dX10_front_21 (Nat.le_of_ble_eq_true rfl) (Nat.le_of_ble_eq_true rfl)
    · skip
      refine lv_iload_n hx hb dX10_front_11 rfl (lv_at hl 2 rfl) ?_
      refine lv_if_lt (tgt := 20) hx hb dX10_front_12 (by decide) (fun c3 => ?_) (fun c3 => ?_)
      · skip
        refine lv_iconst (v := (-1)) hx hb dX10_front_20 (by decide) ?_
        exact ret (-1) () _ _ _ _ _ _ rfl (pt_X10_front_345 p1 p2 c1 c2 c3) (hP.sub [] rfl) (hD.sub [] (by decide) rfl) hS dX10_front_21 (Nat.le_of_ble_eq_true rfl) (Nat.le_of_ble_eq_true rfl)
      · skip
        refine lv_iload_n hx hb dX10_front_15 rfl (lv_at hl 2 rfl) ?_
        refine lv_iconst (v := 1) hx hb dX10_front_16 (by decide) ?_
        refine lv_icmp_le (tgt := 22) hx hb dX10_front_17 (by decide) (fun c4 => ?_) (fun c4 => ?_)
        · skip
          refine lv_aload_n hx hb dX10_front_22 rfl (lv_at hl 0 rfl) ?_
          refine va_get (D := (dC, dI)) (ci := 10) (v := .ref h1) (C := RX10) (T := TX10) (N := 10) hx hb hts inB_10 hown hE.1 hP 0 rfl rfl 6 (by decide) (hts _ k_497) (fun _ h9 => h9) rfl dX10_front_23 ?_
          refine lv_iload_n hx hb dX10_front_26 rfl (lv_at hl 1 rfl) ?_
          by_cases c5 : ((-2147483648) ≤ p1 ∧ p1 ≤ 0)
          · skip
            refine caVi (n := 1) (wr := [(h0, .inr (10, [.ref b0, .ref b1, .ref h3, .ref h2, .ref b2, .ref b3, .ref h1, .ref b4, .ref b5, .int 0]))]) (rest := []) hx hb hml hown hts hE hP hD hS hA (cnX2_frontOf_1 l dC dI cy h1 h2 h3 b6 b7 b8 b9 b10 p1 c5) k_1056 k_1057 k_1058 k_110 k_1059 (by decide +kernel) ⟨Nat.le_of_ble_eq_true rfl, Nat.le_of_ble_eq_true rfl⟩ [1, 2, 3] [0] rfl rfl rfl (by decide) (by decide) (by decide) 0 2 rfl rfl rfl hl.1 rfl (Nat.le_of_ble_eq_true rfl) dX10_front_27 ⟨Nat.le_of_ble_eq_true rfl, Nat.le_of_ble_eq_true rfl⟩ (fun rr u H locs hw hP hD hS => ?_)
            have hP : va_P (dC, dI) vwCl [(h0, .inr (10, [.ref b0, .ref b1, .ref h3, .ref h2, .ref b2, .ref b3, .ref h1, .ref b4, .ref b5, .int 0])), (h1, .inr (2, [.ref h3, .ref h2, .ref b6])), (h2, .inr (1, [.ref h3, .ref b7])), (h3, .inr (7, [.ref b8, .ref b9, .ref b10, .int 0, .int 0, .int 10, .int 150, .int 2, .int 0, .int 0]))] H := hP
            have hD : va_D A [(h0, .inr (10, [.ref b0, .ref b1, .ref h3, .ref h2, .ref b2, .ref b3, .ref h1, .ref b4, .ref b5, .int 0])), (h1, .inr (2, [.ref h3, .ref h2, .ref b6])), (h2, .inr (1, [.ref h3, .ref b7])), (h3, .inr (7, [.ref b8, .ref b9, .ref b10, .int 0, .int 0, .int 10, .int 150, .int 2, .int 0, .int 0]))] := hD
            refine tI (y := 0) hw ?_
            refine lv_istore_n (lv' := [(3, .int 0), (0, .ref h0), (1, .int p1), (2, .int p2)]) hx hb dX10_front_30 rfl hl (by decide) rfl (fun ls hl => ?_)
            refine lv_iload_n hx hb dX10_front_31 rfl (lv_at hl 3 rfl) ?_
            refine lv_iconst (v := 1) hx hb dX10_front_32 (by decide) ?_
            refine lv_icmp_eq (tgt := 41) hx hb dX10_front_33 (by decide) (fun c6 => ?_) (fun c6 => ?_)
            · skip
              refine lv_iload_n hx hb dX10_front_41 rfl (lv_at hl 0 rfl) ?_
              refine lv_goto (tgt := 49) hx hb dX10_front_42 (by decide) ?_
              exact ret 0 () _ _ _ _ _ _ rfl (pt_X10_front_348 p1 p2 c1 c2 c3 c4 c5 c5 c6) (hP.sub [] rfl) (hD.sub [] (by decide) rfl) hS dX10_front_49 (Nat.le_of_ble_eq_true rfl) (Nat.le_of_ble_eq_true rfl)
            · skip
              refine lv_iload_n hx hb dX10_front_36 rfl (lv_at hl 0 rfl) ?_
              refine lv_iconst (v := (-1)) hx hb dX10_front_37 (by decide) ?_
              refine lv_icmp_ne (tgt := 45) hx hb dX10_front_38 (by decide) (fun _ => ?_) (fun c0 => absurd c0 (by decide))
              refine lv_iload_n hx hb dX10_front_45 rfl (lv_at hl 0 rfl) ?_
              refine caSi (n := 1) (wr := [(h0, .inr (10, [.ref b0, .ref b1, .ref h3, .ref h2, .ref b2, .ref b3, .ref h1, .ref b4, .ref b5, .int 0])), (h1, .inr (2, [.ref h3, .ref h2, .ref b6])), (h2, .inr (1, [.ref h3, .ref b7])), (h3, .inr (7, [.ref b8, .ref b9, .ref b10, .int 0, .int 0, .int 10, .int 150, .int 2, .int 0, .int 0]))]) (rest := []) hx hb hml hown hts hE hP hD hS hA (cnJ6_bitCount_0f7a4_1 l dC dI cy ) k_1071 k_1043 k_121 k_1044 (by decide +kernel) ⟨Nat.le_of_ble_eq_true rfl, Nat.le_of_ble_eq_true rfl⟩ [] [0, 1, 2, 3] rfl rfl rfl (by decide) (by decide) (by decide) rfl hl.1 rfl (Nat.le_of_ble_eq_true rfl) dX10_front_46 ⟨Nat.le_of_ble_eq_true rfl, Nat.le_of_ble_eq_true rfl⟩ (fun rr u H locs hw hP hD hS => ?_)
              have hP : va_P (dC, dI) vwCl [(h0, .inr (10, [.ref b0, .ref b1, .ref h3, .ref h2, .ref b2, .ref b3, .ref h1, .ref b4, .ref b5, .int 0])), (h1, .inr (2, [.ref h3, .ref h2, .ref b6])), (h2, .inr (1, [.ref h3, .ref b7])), (h3, .inr (7, [.ref b8, .ref b9, .ref b10, .int 0, .int 0, .int 10, .int 150, .int 2, .int 0, .int 0]))] H := hP
              have hD : va_D A [(h0, .inr (10, [.ref b0, .ref b1, .ref h3, .ref h2, .ref b2, .ref b3, .ref h1, .ref b4, .ref b5, .int 0])), (h1, .inr (2, [.ref h3, .ref h2, .ref b6])), (h2, .inr (1, [.ref h3, .ref b7])), (h3, .inr (7, [.ref b8, .ref b9, .ref b10, .int 0, .int 0, .int 10, .int 150, .int 2, .int 0, .int 0]))] := hD
              refine tI (y := 0) hw ?_
              exact ret 0 () _ _ _ _ _ _ rfl (pt_X10_front_349 p1 p2 c1 c2 c3 c4 c5 c5 c6) (hP.sub [] rfl) (hD.sub [] (by decide) rfl) hS dX10_front_49 (Nat.le_of_ble_eq_true rfl) (Nat.le_of_ble_eq_true rfl)
          · skip
            refine caVi (n := 1) (wr := [(h0, .inr (10, [.ref b0, .ref b1, .ref h3, .ref h2, .ref b2, .ref b3, .ref h1, .ref b4, .ref b5, .int 0]))]) (rest := []) hx hb hml hown hts hE hP hD hS hA (cnX2_frontOf_2 l dC dI cy h1 h2 h3 b6 b7 b8 b9 b10 p1 c5) k_1056 k_1057 k_1058 k_110 k_1059 (by decide +kernel) ⟨Nat.le_of_ble_eq_true rfl, Nat.le_of_ble_eq_true rfl⟩ [1, 2, 3] [0] rfl rfl rfl (by decide) (by decide) (by decide) 0 2 rfl rfl rfl hl.1 rfl (Nat.le_of_ble_eq_true rfl) dX10_front_27 ⟨Nat.le_of_ble_eq_true rfl, Nat.le_of_ble_eq_true rfl⟩ (fun rr u H locs hw hP hD hS => ?_)
            have hP : va_P (dC, dI) vwCl [(h0, .inr (10, [.ref b0, .ref b1, .ref h3, .ref h2, .ref b2, .ref b3, .ref h1, .ref b4, .ref b5, .int 0])), (h1, .inr (2, [.ref h3, .ref h2, .ref b6])), (h2, .inr (1, [.ref h3, .ref b7])), (h3, .inr (7, [.ref b8, .ref b9, .ref b10, .int 0, .int 0, .int 10, .int 150, .int 2, .int 0, .int 0]))] H := hP
            have hD : va_D A [(h0, .inr (10, [.ref b0, .ref b1, .ref h3, .ref h2, .ref b2, .ref b3, .ref h1, .ref b4, .ref b5, .int 0])), (h1, .inr (2, [.ref h3, .ref h2, .ref b6])), (h2, .inr (1, [.ref h3, .ref b7])), (h3, .inr (7, [.ref b8, .ref b9, .ref b10, .int 0, .int 0, .int 10, .int 150, .int 2, .int 0, .int 0]))] := hD
            refine tI (y := (-1)) hw ?_
            refine lv_istore_n (lv' := [(3, .int (-1)), (0, .ref h0), (1, .int p1), (2, .int p2)]) hx hb dX10_front_30 rfl hl (by decide) rfl (fun ls hl => ?_)
            refine lv_iload_n hx hb dX10_front_31 rfl (lv_at hl 3 rfl) ?_
            refine lv_iconst (v := 1) hx hb dX10_front_32 (by decide) ?_
            refine lv_icmp_eq (tgt := 41) hx hb dX10_front_33 (by decide) (fun c7 => ?_) (fun c7 => ?_)
            · skip
              refine lv_iload_n hx hb dX10_front_41 rfl (lv_at hl 0 rfl) ?_
              refine lv_goto (tgt := 49) hx hb dX10_front_42 (by decide) ?_
              exact ret (-1) () _ _ _ _ _ _ rfl (pt_X10_front_352 p1 p2 c1 c2 c3 c4 c5 c7) (hP.sub [] rfl) (hD.sub [] (by decide) rfl) hS dX10_front_49 (Nat.le_of_ble_eq_true rfl) (Nat.le_of_ble_eq_true rfl)
            · skip
              refine lv_iload_n hx hb dX10_front_36 rfl (lv_at hl 0 rfl) ?_
              refine lv_iconst (v := (-1)) hx hb dX10_front_37 (by decide) ?_
              refine lv_icmp_ne (tgt := 45) hx hb dX10_front_38 (by decide) (fun c0 => absurd (by decide) c0) (fun _ => ?_)
              refine lv_iload_n hx hb dX10_front_41 rfl (lv_at hl 0 rfl) ?_
              refine lv_goto (tgt := 49) hx hb dX10_front_42 (by decide) ?_
              exact ret (-1) () _ _ _ _ _ _ rfl (pt_X10_front_353 p1 p2 c1 c2 c3 c4 c5 c7) (hP.sub [] rfl) (hD.sub [] (by decide) rfl) hS dX10_front_49 (Nat.le_of_ble_eq_true rfl) (Nat.le_of_ble_eq_true rfl)
        · skip
          refine lv_iconst (v := (-1)) hx hb dX10_front_20 (by decide) ?_
          exact ret (-1) () _ _ _ _ _ _ rfl (pt_X10_front_354 p1 p2 c1 c2 c3 c4) (hP.sub [] rfl) (hD.sub [] (by decide) rfl) hS dX10_front_21 (Nat.le_of_ble_eq_true rfl) (Nat.le_of_ble_eq_true rfl)
theorem po_X11_isIn_355 (p0 : Int32) (hv : 0 ≤ p0 ∧ p0 ≤ 999) (hv : 0 ≤ p0 ∧ p0 ≤ 999) : ¬ p0 < 0 := by simp only [fa_lt, fa_le, fa_eq, tl_0, tl_999] at *; omega
theorem po_X11_isIn_356 (p0 : Int32) (hv : 0 ≤ p0 ∧ p0 ≤ 999) (hv : 0 ≤ p0 ∧ p0 ≤ 999) : ¬ 999 < p0 := by simp only [fa_lt, fa_le, fa_eq, tl_0, tl_999] at *; omega
set_option maxHeartbeats 4000000 in
set_option maxRecDepth 100000 in
theorem cnX11_isIn_6 (l : Launch) (dC : Nat → ClassId) (dI : Nat → Nat → Nat) (cy : Nat → ClassId) (p0 : Int32) (hv : 0 ≤ p0 ∧ p0 ≤ 999) : ctI l (dC, dI) cy yX11_isIn cX11_isIn 3 .boolean 1 60 0 0 Unit [.int p0, .int 0, .int 999] [] (fun r _ => r = 1) (fun u => []) := by
  refine ctI_of (by decide) (Nat.le_of_ble_eq_true rfl) (fun p e s m below meth c A ls Q hx hb hml hts hown hE hP hD hA hl ret => ?_)
  have hown : s.vm.findClass RX11 = some m.cls := hown
  have hS : va_S A s.heap s.heap [] := va_S.rf
  have hl : lv_has ls 3 [(0, .int p0), (1, .int 0), (2, .int 999)] := hl
  refine lv_iload_n hx hb dX11_isIn_0 rfl (lv_at hl 0 rfl) ?_
  refine lv_iload_n hx hb dX11_isIn_1 rfl (lv_at hl 1 rfl) ?_
  refine lv_icmp_lt (tgt := 14) hx hb dX11_isIn_2 (by decide) (fun c0 => absurd c0 (po_X11_isIn_355 p0 hv hv)) (fun _ => ?_)
  refine lv_iload_n hx hb dX11_isIn_5 rfl (lv_at hl 0 rfl) ?_
  refine lv_iload_n hx hb dX11_isIn_6 rfl (lv_at hl 2 rfl) ?_
  refine lv_icmp_gt (tgt := 14) hx hb dX11_isIn_7 (by decide) (fun c0 => absurd c0 (po_X11_isIn_356 p0 hv hv)) (fun _ => ?_)
  refine lv_iconst (v := 1) hx hb dX11_isIn_10 (by decide) ?_
  refine lv_goto (tgt := 15) hx hb dX11_isIn_11 (by decide) ?_
  exact ret 1 () _ _ _ _ _ _ rfl rfl (hP.sub [] rfl) (hD.sub [] (by decide) rfl) hS dX11_isIn_15 (Nat.le_of_ble_eq_true rfl) (Nat.le_of_ble_eq_true rfl)
set_option maxHeartbeats 4000000 in
set_option maxRecDepth 100000 in
theorem cnX11_wearers_2 (l : Launch) (dC : Nat → ClassId) (dI : Nat → Nat → Nat) (cy : Nat → ClassId) (h0 : Nat) (r : Nat → Nat) : ctI l (dC, dI) cy yX11_wearers cX11_wearers 3 .int 1 60 0 0 Unit [.ref h0] [(h0, .inr (11, mFs r mv0))] (fun r _ => r = 0) (fun u => [(h0, .inr (11, mFs r mv0))]) := by
  refine ctI_of (by decide) (Nat.le_of_ble_eq_true rfl) (fun p e s m below meth c A ls Q hx hb hml hts hown hE hP hD hA hl ret => ?_)
  have hown : s.vm.findClass RX11 = some m.cls := hown
  have hS : va_S A s.heap s.heap [] := va_S.rf
  have hl : lv_has ls 3 [(0, .ref h0)] := hl
  refine lv_iconst (v := 0) hx hb dX11_wearers_0 (by decide) ?_
  refine lv_istore_n (lv' := [(1, .int 0), (0, .ref h0)]) hx hb dX11_wearers_1 rfl hl (by decide) rfl (fun ls hl => ?_)
  refine lv_iconst (v := 0) hx hb dX11_wearers_2 (by decide) ?_
  refine lv_istore_n (lv' := [(2, .int 0), (1, .int 0), (0, .ref h0)]) hx hb dX11_wearers_3 rfl hl (by decide) rfl (fun ls hl => ?_)
  refine lv_iload_n hx hb dX11_wearers_4 rfl (lv_at hl 0 rfl) ?_
  refine lv_aload_n hx hb dX11_wearers_5 rfl (lv_at hl 2 rfl) ?_
  refine va_get (D := (dC, dI)) (ci := 11) (v := .int 0) (C := RX11) (T := TX11) (N := 79) hx hb hts inB_11 hown hE.1 hP 0 rfl rfl 48 (by decide) (hts _ k_1368) (fun _ h9 => h9) rfl dX11_wearers_6 ?_
  refine lv_icmp_ge (tgt := 43) hx hb dX11_wearers_9 (by decide) (fun _ => ?_) (fun c0 => absurd (by decide) c0)
  refine lv_iload_n hx hb dX11_wearers_43 rfl (lv_at hl 1 rfl) ?_
  exact ret 0 () _ _ _ _ _ _ rfl rfl (hP.sub [0] rfl) (hD.sub [0] (by decide) rfl) hS dX11_wearers_44 (Nat.le_of_ble_eq_true rfl) (Nat.le_of_ble_eq_true rfl)
set_option maxHeartbeats 4000000 in
set_option maxRecDepth 100000 in
theorem cnX11_wideOf_1 (l : Launch) (dC : Nat → ClassId) (dI : Nat → Nat → Nat) (cy : Nat → ClassId) (h0 : Nat) (r : Nat → Nat) : ctI l (dC, dI) cy yX11_wideOf cX11_wideOf 4 .int 1 60 0 0 Unit [.ref h0, .int 0] [(h0, .inr (11, mFs r mv0))] (fun r _ => r = 0) (fun u => [(h0, .inr (11, mFs r mv0))]) := by
  refine ctI_of (by decide) (Nat.le_of_ble_eq_true rfl) (fun p e s m below meth c A ls Q hx hb hml hts hown hE hP hD hA hl ret => ?_)
  have hown : s.vm.findClass RX11 = some m.cls := hown
  have hS : va_S A s.heap s.heap [] := va_S.rf
  have hl : lv_has ls 4 [(0, .ref h0), (1, .int 0)] := hl
  refine lv_iconst (v := 0) hx hb dX11_wideOf_0 (by decide) ?_
  refine lv_istore_n (lv' := [(2, .int 0), (0, .ref h0), (1, .int 0)]) hx hb dX11_wideOf_1 rfl hl (by decide) rfl (fun ls hl => ?_)
  refine lv_iconst (v := 0) hx hb dX11_wideOf_2 (by decide) ?_
  refine lv_istore_n (lv' := [(3, .int 0), (2, .int 0), (0, .ref h0), (1, .int 0)]) hx hb dX11_wideOf_3 rfl hl (by decide) rfl (fun ls hl => ?_)
  refine lv_iload_n hx hb dX11_wideOf_4 rfl (lv_at hl 0 rfl) ?_
  refine lv_aload_n hx hb dX11_wideOf_5 rfl (lv_at hl 2 rfl) ?_
  refine va_get (D := (dC, dI)) (ci := 11) (v := .int 0) (C := RX11) (T := TX11) (N := 79) hx hb hts inB_11 hown hE.1 hP 0 rfl rfl 48 (by decide) (hts _ k_1368) (fun _ h9 => h9) rfl dX11_wideOf_6 ?_
  refine lv_icmp_ge (tgt := 51) hx hb dX11_wideOf_9 (by decide) (fun _ => ?_) (fun c0 => absurd (by decide) c0)
  refine lv_iload_n hx hb dX11_wideOf_51 rfl (lv_at hl 1 rfl) ?_
  exact ret 0 () _ _ _ _ _ _ rfl rfl (hP.sub [0] rfl) (hD.sub [0] (by decide) rfl) hS dX11_wideOf_52 (Nat.le_of_ble_eq_true rfl) (Nat.le_of_ble_eq_true rfl)
theorem po_X11_isIn_359 (p0 : Int32) (hv : ¬ (0 ≤ p0 ∧ p0 ≤ 999)) (c1 : ¬ p0 < 0) : 999 < p0 := by simp only [fa_lt, fa_le, fa_eq, tl_0, tl_999] at *; omega
set_option maxHeartbeats 4000000 in
set_option maxRecDepth 100000 in
theorem cnX11_isIn_7 (l : Launch) (dC : Nat → ClassId) (dI : Nat → Nat → Nat) (cy : Nat → ClassId) (p0 : Int32) (hv : ¬ (0 ≤ p0 ∧ p0 ≤ 999)) : ctI l (dC, dI) cy yX11_isIn cX11_isIn 3 .boolean 1 60 0 0 Unit [.int p0, .int 0, .int 999] [] (fun r _ => r = 0) (fun u => []) := by
  refine ctI_of (by decide) (Nat.le_of_ble_eq_true rfl) (fun p e s m below meth c A ls Q hx hb hml hts hown hE hP hD hA hl ret => ?_)
  have hown : s.vm.findClass RX11 = some m.cls := hown
  have hS : va_S A s.heap s.heap [] := va_S.rf
  have hl : lv_has ls 3 [(0, .int p0), (1, .int 0), (2, .int 999)] := hl
  refine lv_iload_n hx hb dX11_isIn_0 rfl (lv_at hl 0 rfl) ?_
  refine lv_iload_n hx hb dX11_isIn_1 rfl (lv_at hl 1 rfl) ?_
  refine lv_icmp_lt (tgt := 14) hx hb dX11_isIn_2 (by decide) (fun c1 => ?_) (fun c1 => ?_)
  · skip
    refine lv_iconst (v := 0) hx hb dX11_isIn_14 (by decide) ?_
    exact ret 0 () _ _ _ _ _ _ rfl rfl (hP.sub [] rfl) (hD.sub [] (by decide) rfl) hS dX11_isIn_15 (Nat.le_of_ble_eq_true rfl) (Nat.le_of_ble_eq_true rfl)
  · skip
    refine lv_iload_n hx hb dX11_isIn_5 rfl (lv_at hl 0 rfl) ?_
    refine lv_iload_n hx hb dX11_isIn_6 rfl (lv_at hl 2 rfl) ?_
    refine lv_icmp_gt (tgt := 14) hx hb dX11_isIn_7 (by decide) (fun _ => ?_) (fun c0 => absurd (po_X11_isIn_359 p0 hv c1) c0)
    refine lv_iconst (v := 0) hx hb dX11_isIn_14 (by decide) ?_
    exact ret 0 () _ _ _ _ _ _ rfl rfl (hP.sub [] rfl) (hD.sub [] (by decide) rfl) hS dX11_isIn_15 (Nat.le_of_ble_eq_true rfl) (Nat.le_of_ble_eq_true rfl)
theorem pt_X11_front_364 (p1 : Int32) (p2 : Int32) (c1 : 0 ≤ p1 ∧ p1 ≤ 999) (c1 : 0 ≤ p1 ∧ p1 ≤ 999) (c2 : 0 ≤ p2 ∧ p2 ≤ 1) (c2 : 0 ≤ p2 ∧ p2 ≤ 1) (c3 : 0 < p1) : ((-1) : Int32) = F_front p1 p2 := by
  unfold F_front
  (repeat' split)
  all_goals first | rfl | assumption | (exfalso; simp only [fa_lt, fa_le, fa_eq, tl_m1, tl_0, tl_1, tl_999] at *; omega) | (simp only [fa_lt, fa_le, fa_eq, tl_m1, tl_0, tl_1, tl_999] at *; omega)
theorem pt_X11_front_365 (p1 : Int32) (p2 : Int32) (c1 : 0 ≤ p1 ∧ p1 ≤ 999) (c1 : 0 ≤ p1 ∧ p1 ≤ 999) (c2 : 0 ≤ p2 ∧ p2 ≤ 1) (c2 : 0 ≤ p2 ∧ p2 ≤ 1) (c3 : ¬ 0 < p1) (c4 : ¬ p2 = 0) : (0 : Int32) = F_front p1 p2 := by
  unfold F_front
  (repeat' split)
  all_goals first | rfl | assumption | (exfalso; simp only [fa_lt, fa_le, fa_eq, tl_m1, tl_0, tl_1, tl_999] at *; omega) | (simp only [fa_lt, fa_le, fa_eq, tl_m1, tl_0, tl_1, tl_999] at *; omega)
theorem pt_X11_front_366 (p1 : Int32) (p2 : Int32) (c1 : 0 ≤ p1 ∧ p1 ≤ 999) (c1 : 0 ≤ p1 ∧ p1 ≤ 999) (c2 : 0 ≤ p2 ∧ p2 ≤ 1) (c2 : 0 ≤ p2 ∧ p2 ≤ 1) (c3 : ¬ 0 < p1) (c4 : p2 = 0) : (0 : Int32) = F_front p1 p2 := by
  unfold F_front
  (repeat' split)
  all_goals first | rfl | assumption | (exfalso; simp only [fa_lt, fa_le, fa_eq, tl_m1, tl_0, tl_1, tl_999] at *; omega) | (simp only [fa_lt, fa_le, fa_eq, tl_m1, tl_0, tl_1, tl_999] at *; omega)
theorem pt_X11_front_367 (p1 : Int32) (p2 : Int32) (c1 : 0 ≤ p1 ∧ p1 ≤ 999) (c1 : 0 ≤ p1 ∧ p1 ≤ 999) (c2 : ¬ (0 ≤ p2 ∧ p2 ≤ 1)) : ((-1) : Int32) = F_front p1 p2 := by
  unfold F_front
  (repeat' split)
  all_goals first | rfl | assumption | (exfalso; simp only [fa_lt, fa_le, fa_eq, tl_m1, tl_0, tl_1, tl_999] at *; omega) | (simp only [fa_lt, fa_le, fa_eq, tl_m1, tl_0, tl_1, tl_999] at *; omega)
theorem pt_X11_front_368 (p1 : Int32) (p2 : Int32) (c1 : ¬ (0 ≤ p1 ∧ p1 ≤ 999)) : ((-1) : Int32) = F_front p1 p2 := by
  unfold F_front
  (repeat' split)
  all_goals first | rfl | assumption | (exfalso; simp only [fa_lt, fa_le, fa_eq, tl_m1, tl_0, tl_1, tl_999] at *; omega) | (simp only [fa_lt, fa_le, fa_eq, tl_m1, tl_0, tl_1, tl_999] at *; omega)
set_option maxHeartbeats 4000000 in
set_option maxRecDepth 100000 in
theorem cnX11_front_1 (l : Launch) (dC : Nat → ClassId) (dI : Nat → Nat → Nat) (cy : Nat → ClassId) (h0 : Nat) (r : Nat → Nat) (p1 : Int32) (p2 : Int32) : ctI l (dC, dI) cy yX11_front cX11_front 6 .int 2 83 0 0 Unit [.ref h0, .int p1, .int p2] [(h0, .inr (11, mFs r mv0)), ((r 59), .inl (cy 1, 39, .inl zF)), ((r 60), .inl (cy 1, 39, .inl zF))] (fun r _ => r = F_front p1 p2) (fun u => []) := by
  refine ctI_of (by decide) (Nat.le_of_ble_eq_true rfl) (fun p e s m below meth c A ls Q hx hb hml hts hown hE hP hD hA hl ret => ?_)
  have hown : s.vm.findClass RX11 = some m.cls := hown
  have hS : va_S A s.heap s.heap [] := va_S.rf
  have hl : lv_has ls 6 [(0, .ref h0), (1, .int p1), (2, .int p2)] := hl
  refine lv_iload_n hx hb dX11_front_0 rfl (lv_at hl 1 rfl) ?_
  refine lv_iconst (v := 0) hx hb dX11_front_1 (by decide) ?_
  refine lv_sipush (v := 999) hx hb dX11_front_2 (by decide) ?_
  by_cases c1 : (0 ≤ p1 ∧ p1 ≤ 999)
  · skip
    refine caSi (n := 3) (wr := [(h0, .inr (11, mFs r mv0)), ((r 59), .inl (cy 1, 39, .inl zF)), ((r 60), .inl (cy 1, 39, .inl zF))]) (rest := []) hx hb hml hown hts hE hP hD hS hA (cnX11_isIn_6 l dC dI cy p1 c1) k_1736 k_1737 k_114 k_1738 (by decide +kernel) ⟨Nat.le_of_ble_eq_true rfl, Nat.le_of_ble_eq_true rfl⟩ [] [0, 1, 2] rfl rfl rfl (by decide) (by decide) (by decide) rfl hl.1 rfl (Nat.le_of_ble_eq_true rfl) dX11_front_5 ⟨Nat.le_of_ble_eq_true rfl, Nat.le_of_ble_eq_true rfl⟩ (fun rr u H locs hw hP hD hS => ?_)
    have hP : va_P (dC, dI) vwCl [(h0, .inr (11, mFs r mv0)), ((r 59), .inl (cy 1, 39, .inl zF)), ((r 60), .inl (cy 1, 39, .inl zF))] H := hP
    have hD : va_D A [(h0, .inr (11, mFs r mv0)), ((r 59), .inl (cy 1, 39, .inl zF)), ((r 60), .inl (cy 1, 39, .inl zF))] := hD
    refine tI (y := 1) hw ?_
    refine lv_if_eq (tgt := 20) hx hb dX11_front_8 (by decide) (fun c0 => absurd c0 (by decide)) (fun _ => ?_)
    refine lv_iload_n hx hb dX11_front_11 rfl (lv_at hl 2 rfl) ?_
    refine lv_iconst (v := 0) hx hb dX11_front_12 (by decide) ?_
    refine lv_iconst (v := 1) hx hb dX11_front_13 (by decide) ?_
    by_cases c2 : (0 ≤ p2 ∧ p2 ≤ 1)
    · skip
      refine caSi (n := 3) (wr := [(h0, .inr (11, mFs r mv0)), ((r 59), .inl (cy 1, 39, .inl zF)), ((r 60), .inl (cy 1, 39, .inl zF))]) (rest := []) hx hb hml hown hts hE hP hD hS hA (cnX11_isIn_2 l dC dI cy p2 c2) k_1736 k_1737 k_114 k_1738 (by decide +kernel) ⟨Nat.le_of_ble_eq_true rfl, Nat.le_of_ble_eq_true rfl⟩ [] [0, 1, 2] rfl rfl rfl (by decide) (by decide) (by decide) rfl hl.1 rfl (Nat.le_of_ble_eq_true rfl) dX11_front_14 ⟨Nat.le_of_ble_eq_true rfl, Nat.le_of_ble_eq_true rfl⟩ (fun rr u H locs hw hP hD hS => ?_)
      have hP : va_P (dC, dI) vwCl [(h0, .inr (11, mFs r mv0)), ((r 59), .inl (cy 1, 39, .inl zF)), ((r 60), .inl (cy 1, 39, .inl zF))] H := hP
      have hD : va_D A [(h0, .inr (11, mFs r mv0)), ((r 59), .inl (cy 1, 39, .inl zF)), ((r 60), .inl (cy 1, 39, .inl zF))] := hD
      refine tI (y := 1) hw ?_
      refine lv_if_ne (tgt := 22) hx hb dX11_front_17 (by decide) (fun _ => ?_) (fun c0 => absurd c0 (by decide))
      refine lv_aload_n hx hb dX11_front_22 rfl (lv_at hl 0 rfl) ?_
      refine caVv (n := 0) (wr := []) (rest := []) hx hb hml hown hts hE hP hD hS hA (cnX11_fill_1 l dC dI cy h0 r) k_1739 k_1741 k_71 k_114 k_1742 (by decide +kernel) ⟨Nat.le_of_ble_eq_true rfl, Nat.le_of_ble_eq_true rfl⟩ [0, 1, 2] [] rfl rfl rfl (by decide) (by decide) (by decide) 0 11 rfl rfl rfl hl.1 rfl (Nat.le_of_ble_eq_true rfl) dX11_front_23 ⟨Nat.le_of_ble_eq_true rfl, Nat.le_of_ble_eq_true rfl⟩ (fun u H locs hw hP hD hS => ?_)
      have hP : va_P (dC, dI) vwCl [(h0, .inr (11, mFs r mv0)), ((r 59), .inl (cy 1, 39, .inl zF)), ((r 60), .inl (cy 1, 39, .inl zF))] H := hP
      have hD : va_D A [(h0, .inr (11, mFs r mv0)), ((r 59), .inl (cy 1, 39, .inl zF)), ((r 60), .inl (cy 1, 39, .inl zF))] := hD
      refine lv_aload_n hx hb dX11_front_26 rfl (lv_at hl 0 rfl) ?_
      refine caVi (n := 0) (wr := [((r 59), .inl (cy 1, 39, .inl zF)), ((r 60), .inl (cy 1, 39, .inl zF))]) (rest := []) hx hb hml hown hts hE hP hD hS hA (cnX11_wearers_2 l dC dI cy h0 r) k_1805 k_1807 k_80 k_114 k_1808 (by decide +kernel) ⟨Nat.le_of_ble_eq_true rfl, Nat.le_of_ble_eq_true rfl⟩ [0] [1, 2] rfl rfl rfl (by decide) (by decide) (by decide) 0 11 rfl rfl rfl hl.1 rfl (Nat.le_of_ble_eq_true rfl) dX11_front_27 ⟨Nat.le_of_ble_eq_true rfl, Nat.le_of_ble_eq_true rfl⟩ (fun rr u H locs hw hP hD hS => ?_)
      have hP : va_P (dC, dI) vwCl [((r 59), .inl (cy 1, 39, .inl zF)), ((r 60), .inl (cy 1, 39, .inl zF)), (h0, .inr (11, mFs r mv0))] H := hP
      have hD : va_D A [((r 59), .inl (cy 1, 39, .inl zF)), ((r 60), .inl (cy 1, 39, .inl zF)), (h0, .inr (11, mFs r mv0))] := hD
      refine tI (y := 0) hw ?_
      refine lv_istore_n (lv' := [(3, .int 0), (0, .ref h0), (1, .int p1), (2, .int p2)]) hx hb dX11_front_30 rfl hl (by decide) rfl (fun ls hl => ?_)
      refine lv_iconst (v := (-1)) hx hb dX11_front_31 (by decide) ?_
      refine lv_istore (lv' := [(4, .int (-1)), (3, .int 0), (0, .ref h0), (1, .int p1), (2, .int p2)]) hx hb dX11_front_32 hl (by decide) rfl (fun ls hl => ?_)
      refine lv_iconst (v := 0) hx hb dX11_front_34 (by decide) ?_
      refine lv_istore (lv' := [(5, .int 0), (4, .int (-1)), (3, .int 0), (0, .ref h0), (1, .int p1), (2, .int p2)]) hx hb dX11_front_35 hl (by decide) rfl (fun ls hl => ?_)
      refine lv_iload hx hb dX11_front_37 (lv_at hl 0 rfl) ?_
      refine lv_iload_n hx hb dX11_front_39 rfl (lv_at hl 2 rfl) ?_
      refine lv_icmp_gt (tgt := 90) hx hb dX11_front_40 (by decide) (fun c0 => absurd c0 (by decide)) (fun _ => ?_)
      refine lv_iload hx hb dX11_front_43 (lv_at hl 0 rfl) ?_
      refine lv_iload_n hx hb dX11_front_45 rfl (lv_at hl 2 rfl) ?_
      refine lv_iconst (v := (-1)) hx hb dX11_front_46 (by decide) ?_
      refine lv_ixor hx hb dX11_front_47 ?_
      refine tI (y := (-1)) (by decide) ?_
      refine lv_iand hx hb dX11_front_48 ?_
      refine tI (y := 0) (by decide) ?_
      refine lv_if_ne (tgt := 84) hx hb dX11_front_49 (by decide) (fun c0 => absurd (by decide) c0) (fun _ => ?_)
      refine lv_aload_n hx hb dX11_front_52 rfl (lv_at hl 3 rfl) ?_
      refine lv_iload hx hb dX11_front_53 (lv_at hl 0 rfl) ?_
      refine caVi (n := 1) (wr := [((r 59), .inl (cy 1, 39, .inl zF)), ((r 60), .inl (cy 1, 39, .inl zF))]) (rest := []) hx hb hml hown hts hE hP hD hS hA (cnX11_wideOf_1 l dC dI cy h0 r) k_1912 k_1914 k_88 k_114 k_1915 (by decide +kernel) ⟨Nat.le_of_ble_eq_true rfl, Nat.le_of_ble_eq_true rfl⟩ [2] [0, 1] rfl rfl rfl (by decide) (by decide) (by decide) 0 11 rfl rfl rfl hl.1 rfl (Nat.le_of_ble_eq_true rfl) dX11_front_55 ⟨Nat.le_of_ble_eq_true rfl, Nat.le_of_ble_eq_true rfl⟩ (fun rr u H locs hw hP hD hS => ?_)
      have hP : va_P (dC, dI) vwCl [((r 59), .inl (cy 1, 39, .inl zF)), ((r 60), .inl (cy 1, 39, .inl zF)), (h0, .inr (11, mFs r mv0))] H := hP
      have hD : va_D A [((r 59), .inl (cy 1, 39, .inl zF)), ((r 60), .inl (cy 1, 39, .inl zF)), (h0, .inr (11, mFs r mv0))] := hD
      refine tI (y := 0) hw ?_
      refine lv_iload_n hx hb dX11_front_58 rfl (lv_at hl 4 rfl) ?_
      refine lv_icmp_lt (tgt := 84) hx hb dX11_front_59 (by decide) (fun c3 => ?_) (fun c3 => ?_)
      · skip
        refine lv_iinc (v := 1) (lv' := [(5, .int 1), (4, .int (-1)), (3, .int 0), (0, .ref h0), (1, .int p1), (2, .int p2)]) hx hb dX11_front_84 hl (k := 0) rfl (by decide) (by decide) rfl (fun ls hl => ?_)
        refine lv_goto (tgt := 37) hx hb dX11_front_87 (by decide) ?_
        refine lv_iload hx hb dX11_front_37 (lv_at hl 0 rfl) ?_
        refine lv_iload_n hx hb dX11_front_39 rfl (lv_at hl 2 rfl) ?_
        refine lv_icmp_gt (tgt := 90) hx hb dX11_front_40 (by decide) (fun _ => ?_) (fun c0 => absurd (by decide) c0)
        refine lv_iload hx hb dX11_front_90 (lv_at hl 1 rfl) ?_
        refine lv_if_ge (tgt := 99) hx hb dX11_front_92 (by decide) (fun c0 => absurd c0 (by decide)) (fun _ => ?_)
        refine lv_iconst (v := (-1)) hx hb dX11_front_95 (by decide) ?_
        refine lv_goto (tgt := 113) hx hb dX11_front_96 (by decide) ?_
        exact ret (-1) () _ _ _ _ _ _ rfl (pt_X11_front_364 p1 p2 c1 c1 c2 c2 c3) (hP.sub [] rfl) (hD.sub [] (by decide) rfl) hS dX11_front_113 (Nat.le_of_ble_eq_true rfl) (Nat.le_of_ble_eq_true rfl)
      · skip
        refine lv_iload hx hb dX11_front_62 (lv_at hl 1 rfl) ?_
        refine lv_if_lt (tgt := 80) hx hb dX11_front_64 (by decide) (fun _ => ?_) (fun c0 => absurd (by decide) c0)
        refine lv_iload hx hb dX11_front_80 (lv_at hl 0 rfl) ?_
        refine lv_istore (lv' := [(4, .int 0), (5, .int 0), (3, .int 0), (0, .ref h0), (1, .int p1), (2, .int p2)]) hx hb dX11_front_82 hl (by decide) rfl (fun ls hl => ?_)
        refine lv_iinc (v := 1) (lv' := [(5, .int 1), (4, .int 0), (3, .int 0), (0, .ref h0), (1, .int p1), (2, .int p2)]) hx hb dX11_front_84 hl (k := 1) rfl (by decide) (by decide) rfl (fun ls hl => ?_)
        refine lv_goto (tgt := 37) hx hb dX11_front_87 (by decide) ?_
        refine lv_iload hx hb dX11_front_37 (lv_at hl 0 rfl) ?_
        refine lv_iload_n hx hb dX11_front_39 rfl (lv_at hl 2 rfl) ?_
        refine lv_icmp_gt (tgt := 90) hx hb dX11_front_40 (by decide) (fun _ => ?_) (fun c0 => absurd (by decide) c0)
        refine lv_iload hx hb dX11_front_90 (lv_at hl 1 rfl) ?_
        refine lv_if_ge (tgt := 99) hx hb dX11_front_92 (by decide) (fun _ => ?_) (fun c0 => absurd (by decide) c0)
        refine lv_iload_n hx hb dX11_front_99 rfl (lv_at hl 5 rfl) ?_
        refine lv_if_ne (tgt := 111) hx hb dX11_front_100 (by decide) (fun c4 => ?_) (fun c4 => ?_)
        · skip
          refine lv_iload hx hb dX11_front_111 (lv_at hl 1 rfl) ?_
          exact ret 0 () _ _ _ _ _ _ rfl (pt_X11_front_365 p1 p2 c1 c1 c2 c2 c3 c4) (hP.sub [] rfl) (hD.sub [] (by decide) rfl) hS dX11_front_113 (Nat.le_of_ble_eq_true rfl) (Nat.le_of_ble_eq_true rfl)
        · skip
          refine lv_iload hx hb dX11_front_103 (lv_at hl 1 rfl) ?_
          refine caSi (n := 1) (wr := [((r 59), .inl (cy 1, 39, .inl zF)), ((r 60), .inl (cy 1, 39, .inl zF)), (h0, .inr (11, mFs r mv0))]) (rest := []) hx hb hml hown hts hE hP hD hS hA (cnX11_members_1 l dC dI cy ) k_1900 k_1901 k_114 k_1902 (by decide +kernel) ⟨Nat.le_of_ble_eq_true rfl, Nat.le_of_ble_eq_true rfl⟩ [] [0, 1, 2] rfl rfl rfl (by decide) (by decide) (by decide) rfl hl.1 rfl (Nat.le_of_ble_eq_true rfl) dX11_front_105 ⟨Nat.le_of_ble_eq_true rfl, Nat.le_of_ble_eq_true rfl⟩ (fun rr u H locs hw hP hD hS => ?_)
          have hP : va_P (dC, dI) vwCl [((r 59), .inl (cy 1, 39, .inl zF)), ((r 60), .inl (cy 1, 39, .inl zF)), (h0, .inr (11, mFs r mv0))] H := hP
          have hD : va_D A [((r 59), .inl (cy 1, 39, .inl zF)), ((r 60), .inl (cy 1, 39, .inl zF)), (h0, .inr (11, mFs r mv0))] := hD
          refine tI (y := 0) hw ?_
          refine lv_goto (tgt := 113) hx hb dX11_front_108 (by decide) ?_
          exact ret 0 () _ _ _ _ _ _ rfl (pt_X11_front_366 p1 p2 c1 c1 c2 c2 c3 c4) (hP.sub [] rfl) (hD.sub [] (by decide) rfl) hS dX11_front_113 (Nat.le_of_ble_eq_true rfl) (Nat.le_of_ble_eq_true rfl)
    · skip
      refine caSi (n := 3) (wr := [(h0, .inr (11, mFs r mv0)), ((r 59), .inl (cy 1, 39, .inl zF)), ((r 60), .inl (cy 1, 39, .inl zF))]) (rest := []) hx hb hml hown hts hE hP hD hS hA (cnX11_isIn_3 l dC dI cy p2 c2) k_1736 k_1737 k_114 k_1738 (by decide +kernel) ⟨Nat.le_of_ble_eq_true rfl, Nat.le_of_ble_eq_true rfl⟩ [] [0, 1, 2] rfl rfl rfl (by decide) (by decide) (by decide) rfl hl.1 rfl (Nat.le_of_ble_eq_true rfl) dX11_front_14 ⟨Nat.le_of_ble_eq_true rfl, Nat.le_of_ble_eq_true rfl⟩ (fun rr u H locs hw hP hD hS => ?_)
      have hP : va_P (dC, dI) vwCl [(h0, .inr (11, mFs r mv0)), ((r 59), .inl (cy 1, 39, .inl zF)), ((r 60), .inl (cy 1, 39, .inl zF))] H := hP
      have hD : va_D A [(h0, .inr (11, mFs r mv0)), ((r 59), .inl (cy 1, 39, .inl zF)), ((r 60), .inl (cy 1, 39, .inl zF))] := hD
      refine tI (y := 0) hw ?_
      refine lv_if_ne (tgt := 22) hx hb dX11_front_17 (by decide) (fun c0 => absurd (by decide) c0) (fun _ => ?_)
      refine lv_iconst (v := (-1)) hx hb dX11_front_20 (by decide) ?_
      exact ret (-1) () _ _ _ _ _ _ rfl (pt_X11_front_367 p1 p2 c1 c1 c2) (hP.sub [] rfl) (hD.sub [] (by decide) rfl) hS dX11_front_21 (Nat.le_of_ble_eq_true rfl) (Nat.le_of_ble_eq_true rfl)
  · skip
    refine caSi (n := 3) (wr := [(h0, .inr (11, mFs r mv0)), ((r 59), .inl (cy 1, 39, .inl zF)), ((r 60), .inl (cy 1, 39, .inl zF))]) (rest := []) hx hb hml hown hts hE hP hD hS hA (cnX11_isIn_7 l dC dI cy p1 c1) k_1736 k_1737 k_114 k_1738 (by decide +kernel) ⟨Nat.le_of_ble_eq_true rfl, Nat.le_of_ble_eq_true rfl⟩ [] [0, 1, 2] rfl rfl rfl (by decide) (by decide) (by decide) rfl hl.1 rfl (Nat.le_of_ble_eq_true rfl) dX11_front_5 ⟨Nat.le_of_ble_eq_true rfl, Nat.le_of_ble_eq_true rfl⟩ (fun rr u H locs hw hP hD hS => ?_)
    have hP : va_P (dC, dI) vwCl [(h0, .inr (11, mFs r mv0)), ((r 59), .inl (cy 1, 39, .inl zF)), ((r 60), .inl (cy 1, 39, .inl zF))] H := hP
    have hD : va_D A [(h0, .inr (11, mFs r mv0)), ((r 59), .inl (cy 1, 39, .inl zF)), ((r 60), .inl (cy 1, 39, .inl zF))] := hD
    refine tI (y := 0) hw ?_
    refine lv_if_eq (tgt := 20) hx hb dX11_front_8 (by decide) (fun _ => ?_) (fun c0 => absurd (by decide) c0)
    refine lv_iconst (v := (-1)) hx hb dX11_front_20 (by decide) ?_
    exact ret (-1) () _ _ _ _ _ _ rfl (pt_X11_front_368 p1 p2 c1) (hP.sub [] rfl) (hD.sub [] (by decide) rfl) hS dX11_front_21 (Nat.le_of_ble_eq_true rfl) (Nat.le_of_ble_eq_true rfl)
