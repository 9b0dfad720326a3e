theorem pt_X11_about_581 (p1 : Int32) (c1 : p1 = 0) : (0 : Int32) = F_about p1 := by
  unfold F_about
  (repeat' split)
  all_goals first | rfl | assumption | (exfalso; simp only [fa_lt, fa_le, fa_eq, tl_m1, tl_0, tl_2, tl_3, tl_4, tl_10, tl_13, tl_150] at *; omega) | (simp only [fa_lt, fa_le, fa_eq, tl_m1, tl_0, tl_2, tl_3, tl_4, tl_10, tl_13, tl_150] at *; omega)
theorem pt_X11_about_582 (p1 : Int32) (c1 : ¬ p1 = 0) (c2 : p1 = 1) : (0 : Int32) = F_about p1 := by
  unfold F_about
  (repeat' split)
  all_goals first | rfl | assumption | (exfalso; simp only [fa_lt, fa_le, fa_eq, tl_m1, tl_0, tl_1, tl_2, tl_3, tl_4, tl_10, tl_13, tl_150] at *; omega) | (simp only [fa_lt, fa_le, fa_eq, tl_m1, tl_0, tl_1, tl_2, tl_3, tl_4, tl_10, tl_13, tl_150] at *; omega)
theorem pt_X11_about_583 (p1 : Int32) (c1 : ¬ p1 = 0) (c2 : ¬ p1 = 1) (c3 : p1 = 2) : (10 : Int32) = F_about p1 := by
  unfold F_about
  (repeat' split)
  all_goals first | rfl | assumption | (exfalso; simp only [fa_lt, fa_le, fa_eq, tl_m1, tl_0, tl_1, tl_2, tl_3, tl_4, tl_10, tl_13, tl_150] at *; omega) | (simp only [fa_lt, fa_le, fa_eq, tl_m1, tl_0, tl_1, tl_2, tl_3, tl_4, tl_10, tl_13, tl_150] at *; omega)
theorem pt_X11_about_584 (p1 : Int32) (c1 : ¬ p1 = 0) (c2 : ¬ p1 = 1) (c3 : ¬ p1 = 2) (c4 : p1 = 3) : (150 : Int32) = F_about p1 := by
  unfold F_about
  (repeat' split)
  all_goals first | rfl | assumption | (exfalso; simp only [fa_lt, fa_le, fa_eq, tl_m1, tl_0, tl_1, tl_2, tl_3, tl_4, tl_10, tl_13, tl_150] at *; omega) | (simp only [fa_lt, fa_le, fa_eq, tl_m1, tl_0, tl_1, tl_2, tl_3, tl_4, tl_10, tl_13, tl_150] at *; omega)
theorem pt_X11_about_585 (p1 : Int32) (c1 : ¬ p1 = 0) (c2 : ¬ p1 = 1) (c3 : ¬ p1 = 2) (c4 : ¬ p1 = 3) (c5 : p1 = 4) : (2 : Int32) = F_about p1 := by
  unfold F_about
  (repeat' split)
  all_goals first | rfl | assumption | (exfalso; simp only [fa_lt, fa_le, fa_eq, tl_m1, tl_0, tl_1, tl_2, tl_3, tl_4, tl_10, tl_13, tl_150] at *; omega) | (simp only [fa_lt, fa_le, fa_eq, tl_m1, tl_0, tl_1, tl_2, tl_3, tl_4, tl_10, tl_13, tl_150] at *; omega)
theorem pt_X11_about_586 (p1 : Int32) (c1 : ¬ p1 = 0) (c2 : ¬ p1 = 1) (c3 : ¬ p1 = 2) (c4 : ¬ p1 = 3) (c5 : ¬ p1 = 4) (c6 : p1 = 5) : (0 : Int32) = F_about p1 := by
  unfold F_about
  (repeat' split)
  all_goals first | rfl | assumption | (exfalso; simp only [fa_lt, fa_le, fa_eq, tl_m1, tl_0, tl_1, tl_2, tl_3, tl_4, tl_5, tl_10, tl_13, tl_150] at *; omega) | (simp only [fa_lt, fa_le, fa_eq, tl_m1, tl_0, tl_1, tl_2, tl_3, tl_4, tl_5, tl_10, tl_13, tl_150] at *; omega)
theorem pt_X11_about_587 (p1 : Int32) (c1 : ¬ p1 = 0) (c2 : ¬ p1 = 1) (c3 : ¬ p1 = 2) (c4 : ¬ p1 = 3) (c5 : ¬ p1 = 4) (c6 : ¬ p1 = 5) (c7 : p1 = 6) : (0 : Int32) = F_about p1 := by
  unfold F_about
  (repeat' split)
  all_goals first | rfl | assumption | (exfalso; simp only [fa_lt, fa_le, fa_eq, tl_m1, tl_0, tl_1, tl_2, tl_3, tl_4, tl_5, tl_6, tl_10, tl_13, tl_150] at *; omega) | (simp only [fa_lt, fa_le, fa_eq, tl_m1, tl_0, tl_1, tl_2, tl_3, tl_4, tl_5, tl_6, tl_10, tl_13, tl_150] at *; omega)
theorem pt_X11_about_588 (p1 : Int32) (c1 : ¬ p1 = 0) (c2 : ¬ p1 = 1) (c3 : ¬ p1 = 2) (c4 : ¬ p1 = 3) (c5 : ¬ p1 = 4) (c6 : ¬ p1 = 5) (c7 : ¬ p1 = 6) (c8 : p1 = 7) : (0 : Int32) = F_about p1 := by
  unfold F_about
  (repeat' split)
  all_goals first | rfl | assumption | (exfalso; simp only [fa_lt, fa_le, fa_eq, tl_m1, tl_0, tl_1, tl_2, tl_3, tl_4, tl_5, tl_6, tl_7, tl_10, tl_13, tl_150] at *; omega) | (simp only [fa_lt, fa_le, fa_eq, tl_m1, tl_0, tl_1, tl_2, tl_3, tl_4, tl_5, tl_6, tl_7, tl_10, tl_13, tl_150] at *; omega)
theorem pt_X11_about_589 (p1 : Int32) (c1 : ¬ p1 = 0) (c2 : ¬ p1 = 1) (c3 : ¬ p1 = 2) (c4 : ¬ p1 = 3) (c5 : ¬ p1 = 4) (c6 : ¬ p1 = 5) (c7 : ¬ p1 = 6) (c8 : ¬ p1 = 7) (c9 : p1 = 8) : (0 : Int32) = F_about p1 := by
  unfold F_about
  (repeat' split)
  all_goals first | rfl | assumption | (exfalso; simp only [fa_lt, fa_le, fa_eq, tl_m1, tl_0, tl_1, tl_2, tl_3, tl_4, tl_5, tl_6, tl_7, tl_8, tl_10, tl_13, tl_150] at *; omega) | (simp only [fa_lt, fa_le, fa_eq, tl_m1, tl_0, tl_1, tl_2, tl_3, tl_4, tl_5, tl_6, tl_7, tl_8, tl_10, tl_13, tl_150] at *; omega)
theorem pt_X11_about_590 (p1 : Int32) (c1 : ¬ p1 = 0) (c2 : ¬ p1 = 1) (c3 : ¬ p1 = 2) (c4 : ¬ p1 = 3) (c5 : ¬ p1 = 4) (c6 : ¬ p1 = 5) (c7 : ¬ p1 = 6) (c8 : ¬ p1 = 7) (c9 : ¬ p1 = 8) (c10 : p1 = 9) : (0 : Int32) = F_about p1 := by
  unfold F_about
  (repeat' split)
  all_goals first | rfl | assumption | (exfalso; simp only [fa_lt, fa_le, fa_eq, tl_m1, tl_0, tl_1, tl_2, tl_3, tl_4, tl_5, tl_6, tl_7, tl_8, tl_9, tl_10, tl_13, tl_150] at *; omega) | (simp only [fa_lt, fa_le, fa_eq, tl_m1, tl_0, tl_1, tl_2, tl_3, tl_4, tl_5, tl_6, tl_7, tl_8, tl_9, tl_10, tl_13, tl_150] at *; omega)
theorem pt_X11_about_591 (p1 : Int32) (c1 : ¬ p1 = 0) (c2 : ¬ p1 = 1) (c3 : ¬ p1 = 2) (c4 : ¬ p1 = 3) (c5 : ¬ p1 = 4) (c6 : ¬ p1 = 5) (c7 : ¬ p1 = 6) (c8 : ¬ p1 = 7) (c9 : ¬ p1 = 8) (c10 : ¬ p1 = 9) (c11 : p1 = 10) : (0 : Int32) = F_about p1 := by
  unfold F_about
  (repeat' split)
  all_goals first | rfl | assumption | (exfalso; simp only [fa_lt, fa_le, fa_eq, tl_m1, tl_0, tl_1, tl_2, tl_3, tl_4, tl_5, tl_6, tl_7, tl_8, tl_9, tl_10, tl_13, tl_150] at *; omega) | (simp only [fa_lt, fa_le, fa_eq, tl_m1, tl_0, tl_1, tl_2, tl_3, tl_4, tl_5, tl_6, tl_7, tl_8, tl_9, tl_10, tl_13, tl_150] at *; omega)
theorem pt_X11_about_592 (p1 : Int32) (c1 : ¬ p1 = 0) (c2 : ¬ p1 = 1) (c3 : ¬ p1 = 2) (c4 : ¬ p1 = 3) (c5 : ¬ p1 = 4) (c6 : ¬ p1 = 5) (c7 : ¬ p1 = 6) (c8 : ¬ p1 = 7) (c9 : ¬ p1 = 8) (c10 : ¬ p1 = 9) (c11 : ¬ p1 = 10) (c12 : p1 = 11) : (0 : Int32) = F_about p1 := by
  unfold F_about
  (repeat' split)
  all_goals first | rfl | assumption | (exfalso; simp only [fa_lt, fa_le, fa_eq, tl_m1, tl_0, tl_1, tl_2, tl_3, tl_4, tl_5, tl_6, tl_7, tl_8, tl_9, tl_10, tl_11, tl_13, tl_150] at *; omega) | (simp only [fa_lt, fa_le, fa_eq, tl_m1, tl_0, tl_1, tl_2, tl_3, tl_4, tl_5, tl_6, tl_7, tl_8, tl_9, tl_10, tl_11, tl_13, tl_150] at *; omega)
theorem pt_X11_about_593 (p1 : Int32) (c1 : ¬ p1 = 0) (c2 : ¬ p1 = 1) (c3 : ¬ p1 = 2) (c4 : ¬ p1 = 3) (c5 : ¬ p1 = 4) (c6 : ¬ p1 = 5) (c7 : ¬ p1 = 6) (c8 : ¬ p1 = 7) (c9 : ¬ p1 = 8) (c10 : ¬ p1 = 9) (c11 : ¬ p1 = 10) (c12 : ¬ p1 = 11) (c13 : p1 = 12) : (0 : Int32) = F_about p1 := by
  unfold F_about
  (repeat' split)
  all_goals first | rfl | assumption | (exfalso; simp only [fa_lt, fa_le, fa_eq, tl_m1, tl_0, tl_1, tl_2, tl_3, tl_4, tl_5, tl_6, tl_7, tl_8, tl_9, tl_10, tl_11, tl_12, tl_13, tl_150] at *; omega) | (simp only [fa_lt, fa_le, fa_eq, tl_m1, tl_0, tl_1, tl_2, tl_3, tl_4, tl_5, tl_6, tl_7, tl_8, tl_9, tl_10, tl_11, tl_12, tl_13, tl_150] at *; omega)
theorem pt_X11_about_594 (p1 : Int32) (c1 : ¬ p1 = 0) (c2 : ¬ p1 = 1) (c3 : ¬ p1 = 2) (c4 : ¬ p1 = 3) (c5 : ¬ p1 = 4) (c6 : ¬ p1 = 5) (c7 : ¬ p1 = 6) (c8 : ¬ p1 = 7) (c9 : ¬ p1 = 8) (c10 : ¬ p1 = 9) (c11 : ¬ p1 = 10) (c12 : ¬ p1 = 11) (c13 : ¬ p1 = 12) (c14 : p1 = 13) : (0 : Int32) = F_about p1 := by
  unfold F_about
  (repeat' split)
  all_goals first | rfl | assumption | (exfalso; simp only [fa_lt, fa_le, fa_eq, tl_m1, tl_0, tl_1, tl_2, tl_3, tl_4, tl_5, tl_6, tl_7, tl_8, tl_9, tl_10, tl_11, tl_12, tl_13, tl_150] at *; omega) | (simp only [fa_lt, fa_le, fa_eq, tl_m1, tl_0, tl_1, tl_2, tl_3, tl_4, tl_5, tl_6, tl_7, tl_8, tl_9, tl_10, tl_11, tl_12, tl_13, tl_150] at *; omega)
theorem po_X11_about_595 (p1 : Int32) (c1 : ¬ p1 = 0) (c2 : ¬ p1 = 1) (c3 : ¬ p1 = 2) (c4 : ¬ p1 = 3) (c5 : ¬ p1 = 4) (c6 : ¬ p1 = 5) (c7 : ¬ p1 = 6) (c8 : ¬ p1 = 7) (c9 : ¬ p1 = 8) (c10 : ¬ p1 = 9) (c11 : ¬ p1 = 10) (c12 : ¬ p1 = 11) (c13 : ¬ p1 = 12) (c14 : ¬ p1 = 13) : p1.toInt < 0 ∨ 13 < p1.toInt := by simp only [fa_lt, fa_le, fa_eq, tl_0, tl_1, tl_2, tl_3, tl_4, tl_5, tl_6, tl_7, tl_8, tl_9, tl_10, tl_11, tl_12, tl_13] at *; omega
theorem pt_X11_about_596 (p1 : Int32) (c1 : ¬ p1 = 0) (c2 : ¬ p1 = 1) (c3 : ¬ p1 = 2) (c4 : ¬ p1 = 3) (c5 : ¬ p1 = 4) (c6 : ¬ p1 = 5) (c7 : ¬ p1 = 6) (c8 : ¬ p1 = 7) (c9 : ¬ p1 = 8) (c10 : ¬ p1 = 9) (c11 : ¬ p1 = 10) (c12 : ¬ p1 = 11) (c13 : ¬ p1 = 12) (c14 : ¬ p1 = 13) : ((-1) : Int32) = F_about p1 := by
  unfold F_about
  (repeat' split)
  all_goals first | rfl | assumption | (exfalso; simp only [fa_lt, fa_le, fa_eq, tl_m1, tl_0, tl_1, tl_2, tl_3, tl_4, tl_5, tl_6, tl_7, tl_8, tl_9, tl_10, tl_11, tl_12, tl_13, tl_150] at *; omega) | (simp only [fa_lt, fa_le, fa_eq, tl_m1, tl_0, tl_1, tl_2, tl_3, tl_4, tl_5, tl_6, tl_7, tl_8, tl_9, tl_10, tl_11, tl_12, tl_13, tl_150] at *; omega)
set_option maxHeartbeats 4000000 in
set_option maxRecDepth 100000 in
theorem cnX11_about_1 (l : Launch) (dC : Nat → ClassId) (dI : Nat → Nat → Nat) (cy : Nat → ClassId) (h0 : Nat) (r : Nat → Nat) (p1 : Int32) : ctI l (dC, dI) cy yX11_about cX11_about 2 .int 1 60 0 0 Unit [.ref h0, .int p1] [(h0, .inr (11, mFs r mv0)), ((r 59), .inl (cy 1, 39, .inl zF))] (fun r _ => r = F_about p1) (fun u => []) := by
  refine ctI_of (by decide) (Nat.le_of_ble_eq_true rfl) (fun p e s m below meth c A ls Q hx hb hml hts hown hE hP hD hA hl ret => ?_)
  have hown : s.vm.findClass RX11 = some m.cls := hown
  have hS : va_S A s.heap s.heap [] := va_S.rf
  have hl : lv_has ls 2 [(0, .ref h0), (1, .int p1)] := hl
  refine lv_iload_n hx hb dX11_about_0 rfl (lv_at hl 1 rfl) ?_
  by_cases c1 : p1 = 0
  · skip
    refine lv_tableIn (off := 71) (tgt := 72) hx hb dX11_about_1 (by rw [c1]; decide) (by rw [c1]; decide) (by rw [c1]; decide) (by decide) ?_
    refine lv_aload_n hx hb dX11_about_72 rfl (lv_at hl 0 rfl) ?_
    refine va_get (D := (dC, dI)) (ci := 11) (v := .int 0) (C := RX11) (T := TX11) (N := 79) hx hb hts inB_11 hown hE.1 hP 0 rfl rfl 48 (by decide) (hts _ k_1368) (fun _ h9 => h9) rfl dX11_about_73 ?_
    exact ret 0 () _ _ _ _ _ _ rfl (pt_X11_about_581 p1 c1) (hP.sub [] rfl) (hD.sub [] (by decide) rfl) hS dX11_about_76 (Nat.le_of_ble_eq_true rfl) (Nat.le_of_ble_eq_true rfl)
  · skip
    by_cases c2 : p1 = 1
    · skip
      refine lv_tableIn (off := 76) (tgt := 77) hx hb dX11_about_1 (by rw [c2]; decide) (by rw [c2]; decide) (by rw [c2]; decide) (by decide) ?_
      refine lv_aload_n hx hb dX11_about_77 rfl (lv_at hl 0 rfl) ?_
      refine va_get (D := (dC, dI)) (ci := 11) (v := .int 0) (C := RX11) (T := TX11) (N := 79) hx hb hts inB_11 hown hE.1 hP 0 rfl rfl 49 (by decide) (hts _ k_1369) (fun _ h9 => h9) rfl dX11_about_78 ?_
      exact ret 0 () _ _ _ _ _ _ rfl (pt_X11_about_582 p1 c1 c2) (hP.sub [] rfl) (hD.sub [] (by decide) rfl) hS dX11_about_81 (Nat.le_of_ble_eq_true rfl) (Nat.le_of_ble_eq_true rfl)
    · skip
      by_cases c3 : p1 = 2
      · skip
        refine lv_tableIn (off := 81) (tgt := 82) hx hb dX11_about_1 (by rw [c3]; decide) (by rw [c3]; decide) (by rw [c3]; decide) (by decide) ?_
        refine lv_aload_n hx hb dX11_about_82 rfl (lv_at hl 0 rfl) ?_
        refine va_get (D := (dC, dI)) (ci := 11) (v := .int 10) (C := RX11) (T := TX11) (N := 79) hx hb hts inB_11 hown hE.1 hP 0 rfl rfl 50 (by decide) (hts _ k_1370) (fun _ h9 => h9) rfl dX11_about_83 ?_
        exact ret 10 () _ _ _ _ _ _ rfl (pt_X11_about_583 p1 c1 c2 c3) (hP.sub [] rfl) (hD.sub [] (by decide) rfl) hS dX11_about_86 (Nat.le_of_ble_eq_true rfl) (Nat.le_of_ble_eq_true rfl)
      · skip
        by_cases c4 : p1 = 3
        · skip
          refine lv_tableIn (off := 86) (tgt := 87) hx hb dX11_about_1 (by rw [c4]; decide) (by rw [c4]; decide) (by rw [c4]; decide) (by decide) ?_
          refine lv_aload_n hx hb dX11_about_87 rfl (lv_at hl 0 rfl) ?_
          refine va_get (D := (dC, dI)) (ci := 11) (v := .int 150) (C := RX11) (T := TX11) (N := 79) hx hb hts inB_11 hown hE.1 hP 0 rfl rfl 51 (by decide) (hts _ k_1371) (fun _ h9 => h9) rfl dX11_about_88 ?_
          exact ret 150 () _ _ _ _ _ _ rfl (pt_X11_about_584 p1 c1 c2 c3 c4) (hP.sub [] rfl) (hD.sub [] (by decide) rfl) hS dX11_about_91 (Nat.le_of_ble_eq_true rfl) (Nat.le_of_ble_eq_true rfl)
        · skip
          by_cases c5 : p1 = 4
          · skip
            refine lv_tableIn (off := 91) (tgt := 92) hx hb dX11_about_1 (by rw [c5]; decide) (by rw [c5]; decide) (by rw [c5]; decide) (by decide) ?_
            refine lv_aload_n hx hb dX11_about_92 rfl (lv_at hl 0 rfl) ?_
            refine va_get (D := (dC, dI)) (ci := 11) (v := .int 2) (C := RX11) (T := TX11) (N := 79) hx hb hts inB_11 hown hE.1 hP 0 rfl rfl 52 (by decide) (hts _ k_1372) (fun _ h9 => h9) rfl dX11_about_93 ?_
            exact ret 2 () _ _ _ _ _ _ rfl (pt_X11_about_585 p1 c1 c2 c3 c4 c5) (hP.sub [] rfl) (hD.sub [] (by decide) rfl) hS dX11_about_96 (Nat.le_of_ble_eq_true rfl) (Nat.le_of_ble_eq_true rfl)
          · skip
            by_cases c6 : p1 = 5
            · skip
              refine lv_tableIn (off := 96) (tgt := 97) hx hb dX11_about_1 (by rw [c6]; decide) (by rw [c6]; decide) (by rw [c6]; decide) (by decide) ?_
              refine lv_aload_n hx hb dX11_about_97 rfl (lv_at hl 0 rfl) ?_
              refine va_get (D := (dC, dI)) (ci := 11) (v := .ref (r 59)) (C := RX11) (T := TX11) (N := 79) hx hb hts inB_11 hown hE.1 hP 0 rfl rfl 59 (by decide) (hts _ k_1379) (fun _ h9 => h9) rfl dX11_about_98 ?_
              refine lv_bipush (v := 37) hx hb dX11_about_101 (by decide) ?_
              refine ldI (k := 37) (v := 0) hx hb hE hP 1 rfl (vp_in_nI (n := 37) (by decide) (by decide)) (nI_clamp (n := 37) (by decide)) rfl dX11_about_103 ?_
              exact ret 0 () _ _ _ _ _ _ rfl (pt_X11_about_586 p1 c1 c2 c3 c4 c5 c6) (hP.sub [] rfl) (hD.sub [] (by decide) rfl) hS dX11_about_104 (Nat.le_of_ble_eq_true rfl) (Nat.le_of_ble_eq_true rfl)
            · skip
              by_cases c7 : p1 = 6
              · skip
                refine lv_tableIn (off := 104) (tgt := 105) hx hb dX11_about_1 (by rw [c7]; decide) (by rw [c7]; decide) (by rw [c7]; decide) (by decide) ?_
                refine lv_aload_n hx hb dX11_about_105 rfl (lv_at hl 0 rfl) ?_
                refine va_get (D := (dC, dI)) (ci := 11) (v := .ref (r 59)) (C := RX11) (T := TX11) (N := 79) hx hb hts inB_11 hown hE.1 hP 0 rfl rfl 59 (by decide) (hts _ k_1379) (fun _ h9 => h9) rfl dX11_about_106 ?_
                refine lv_bipush (v := 38) hx hb dX11_about_109 (by decide) ?_
                refine ldI (k := 38) (v := 0) hx hb hE hP 1 rfl (vp_in_nI (n := 38) (by decide) (by decide)) (nI_clamp (n := 38) (by decide)) rfl dX11_about_111 ?_
                exact ret 0 () _ _ _ _ _ _ rfl (pt_X11_about_587 p1 c1 c2 c3 c4 c5 c6 c7) (hP.sub [] rfl) (hD.sub [] (by decide) rfl) hS dX11_about_112 (Nat.le_of_ble_eq_true rfl) (Nat.le_of_ble_eq_true rfl)
              · skip
                by_cases c8 : p1 = 7
                · skip
                  refine lv_tableIn (off := 112) (tgt := 113) hx hb dX11_about_1 (by rw [c8]; decide) (by rw [c8]; decide) (by rw [c8]; decide) (by decide) ?_
                  refine lv_aload_n hx hb dX11_about_113 rfl (lv_at hl 0 rfl) ?_
                  refine va_get (D := (dC, dI)) (ci := 11) (v := .int 0) (C := RX11) (T := TX11) (N := 79) hx hb hts inB_11 hown hE.1 hP 0 rfl rfl 62 (by decide) (hts _ k_1382) (fun _ h9 => h9) rfl dX11_about_114 ?_
                  exact ret 0 () _ _ _ _ _ _ rfl (pt_X11_about_588 p1 c1 c2 c3 c4 c5 c6 c7 c8) (hP.sub [] rfl) (hD.sub [] (by decide) rfl) hS dX11_about_117 (Nat.le_of_ble_eq_true rfl) (Nat.le_of_ble_eq_true rfl)
                · skip
                  by_cases c9 : p1 = 8
                  · skip
                    refine lv_tableIn (off := 117) (tgt := 118) hx hb dX11_about_1 (by rw [c9]; decide) (by rw [c9]; decide) (by rw [c9]; decide) (by decide) ?_
                    refine lv_aload_n hx hb dX11_about_118 rfl (lv_at hl 0 rfl) ?_
                    refine va_get (D := (dC, dI)) (ci := 11) (v := .int 0) (C := RX11) (T := TX11) (N := 79) hx hb hts inB_11 hown hE.1 hP 0 rfl rfl 63 (by decide) (hts _ k_1383) (fun _ h9 => h9) rfl dX11_about_119 ?_
                    exact ret 0 () _ _ _ _ _ _ rfl (pt_X11_about_589 p1 c1 c2 c3 c4 c5 c6 c7 c8 c9) (hP.sub [] rfl) (hD.sub [] (by decide) rfl) hS dX11_about_122 (Nat.le_of_ble_eq_true rfl) (Nat.le_of_ble_eq_true rfl)
                  · skip
                    by_cases c10 : p1 = 9
                    · skip
                      refine lv_tableIn (off := 122) (tgt := 123) hx hb dX11_about_1 (by rw [c10]; decide) (by rw [c10]; decide) (by rw [c10]; decide) (by decide) ?_
                      refine lv_aload_n hx hb dX11_about_123 rfl (lv_at hl 0 rfl) ?_
                      refine va_get (D := (dC, dI)) (ci := 11) (v := .int 0) (C := RX11) (T := TX11) (N := 79) hx hb hts inB_11 hown hE.1 hP 0 rfl rfl 73 (by decide) (hts _ k_1393) (fun _ h9 => h9) rfl dX11_about_124 ?_
                      exact ret 0 () _ _ _ _ _ _ rfl (pt_X11_about_590 p1 c1 c2 c3 c4 c5 c6 c7 c8 c9 c10) (hP.sub [] rfl) (hD.sub [] (by decide) rfl) hS dX11_about_127 (Nat.le_of_ble_eq_true rfl) (Nat.le_of_ble_eq_true rfl)
                    · skip
                      by_cases c11 : p1 = 10
                      · skip
                        refine lv_tableIn (off := 127) (tgt := 128) hx hb dX11_about_1 (by rw [c11]; decide) (by rw [c11]; decide) (by rw [c11]; decide) (by decide) ?_
                        refine lv_aload_n hx hb dX11_about_128 rfl (lv_at hl 0 rfl) ?_
                        refine va_get (D := (dC, dI)) (ci := 11) (v := .int 0) (C := RX11) (T := TX11) (N := 79) hx hb hts inB_11 hown hE.1 hP 0 rfl rfl 74 (by decide) (hts _ k_1394) (fun _ h9 => h9) rfl dX11_about_129 ?_
                        exact ret 0 () _ _ _ _ _ _ rfl (pt_X11_about_591 p1 c1 c2 c3 c4 c5 c6 c7 c8 c9 c10 c11) (hP.sub [] rfl) (hD.sub [] (by decide) rfl) hS dX11_about_132 (Nat.le_of_ble_eq_true rfl) (Nat.le_of_ble_eq_true rfl)
                      · skip
                        by_cases c12 : p1 = 11
                        · skip
                          refine lv_tableIn (off := 132) (tgt := 133) hx hb dX11_about_1 (by rw [c12]; decide) (by rw [c12]; decide) (by rw [c12]; decide) (by decide) ?_
                          refine lv_aload_n hx hb dX11_about_133 rfl (lv_at hl 0 rfl) ?_
                          refine va_get (D := (dC, dI)) (ci := 11) (v := .int 0) (C := RX11) (T := TX11) (N := 79) hx hb hts inB_11 hown hE.1 hP 0 rfl rfl 1 (by decide) (hts _ k_1321) (fun _ h9 => h9) rfl dX11_about_134 ?_
                          exact ret 0 () _ _ _ _ _ _ rfl (pt_X11_about_592 p1 c1 c2 c3 c4 c5 c6 c7 c8 c9 c10 c11 c12) (hP.sub [] rfl) (hD.sub [] (by decide) rfl) hS dX11_about_137 (Nat.le_of_ble_eq_true rfl) (Nat.le_of_ble_eq_true rfl)
                        · skip
                          by_cases c13 : p1 = 12
                          · skip
                            refine lv_tableIn (off := 137) (tgt := 138) hx hb dX11_about_1 (by rw [c13]; decide) (by rw [c13]; decide) (by rw [c13]; decide) (by decide) ?_
                            refine lv_aload_n hx hb dX11_about_138 rfl (lv_at hl 0 rfl) ?_
                            refine va_get (D := (dC, dI)) (ci := 11) (v := .int 0) (C := RX11) (T := TX11) (N := 79) hx hb hts inB_11 hown hE.1 hP 0 rfl rfl 21 (by decide) (hts _ k_1341) (fun _ h9 => h9) rfl dX11_about_139 ?_
                            exact ret 0 () _ _ _ _ _ _ rfl (pt_X11_about_593 p1 c1 c2 c3 c4 c5 c6 c7 c8 c9 c10 c11 c12 c13) (hP.sub [] rfl) (hD.sub [] (by decide) rfl) hS dX11_about_142 (Nat.le_of_ble_eq_true rfl) (Nat.le_of_ble_eq_true rfl)
                          · skip
                            by_cases c14 : p1 = 13
                            · skip
                              refine lv_tableIn (off := 142) (tgt := 143) hx hb dX11_about_1 (by rw [c14]; decide) (by rw [c14]; decide) (by rw [c14]; decide) (by decide) ?_
                              refine lv_aload_n hx hb dX11_about_143 rfl (lv_at hl 0 rfl) ?_
                              refine va_get (D := (dC, dI)) (ci := 11) (v := .int 0) (C := RX11) (T := TX11) (N := 79) hx hb hts inB_11 hown hE.1 hP 0 rfl rfl 67 (by decide) (hts _ k_1387) (fun _ h9 => h9) rfl dX11_about_144 ?_
                              exact ret 0 () _ _ _ _ _ _ rfl (pt_X11_about_594 p1 c1 c2 c3 c4 c5 c6 c7 c8 c9 c10 c11 c12 c13 c14) (hP.sub [] rfl) (hD.sub [] (by decide) rfl) hS dX11_about_147 (Nat.le_of_ble_eq_true rfl) (Nat.le_of_ble_eq_true rfl)
                            · skip
                              refine lv_tableOut (tgt := 148) hx hb dX11_about_1 (po_X11_about_595 p1 c1 c2 c3 c4 c5 c6 c7 c8 c9 c10 c11 c12 c13 c14) (by decide) ?_
                              refine lv_iconst (v := (-1)) hx hb dX11_about_148 (by decide) ?_
                              exact ret (-1) () _ _ _ _ _ _ rfl (pt_X11_about_596 p1 c1 c2 c3 c4 c5 c6 c7 c8 c9 c10 c11 c12 c13 c14) (hP.sub [] rfl) (hD.sub [] (by decide) rfl) hS dX11_about_149 (Nat.le_of_ble_eq_true rfl) (Nat.le_of_ble_eq_true rfl)
