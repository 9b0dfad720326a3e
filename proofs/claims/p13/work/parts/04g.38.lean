def gsY_X11_misfitOf_1_L30 (NF : Nat) (v : Nat → Int32) : Nat → (Int32) → (Int32) → (Nat → Int32) → (Nat → Nat → Int32) → (Int64) → (Nat → Int64) → Int32 × (Nat → Int32) × (Nat → Nat → Int32) × (Int64) × (Nat → Int64)
  | 0, _, _, _, _, _, _ => (0, (fun _ => 0), (fun _ _ => 0), 0, (fun _ => 0))
  | n30 + 1, l3_30, l4_30, v30, f30, w30, g30 =>
    if (v 9) ≤ l4_30 then
      let t34 : Int32 := f30 7 (0 : Int32).toNatClampNeg
      let r35 : Int32 := gsY_X11_within_1 NF t34 999 v30 f30 w30 g30
      (r35, v30, f30, w30, g30)
    else
      let t39 : Int32 := f30 4 (l4_30).toNatClampNeg
      if t39 = 0 then
        if t39 = 0 then
          let t50 : Int32 := f30 5 (l4_30).toNatClampNeg
          let f51 : Nat → Nat → Int32 := upd2 f30 7 (upd (f30 7) l3_30.toNatClampNeg t50)
          let t52 : Int32 := l3_30 + 1
          let t54 : Int32 := l4_30 + 1
          gsY_X11_misfitOf_1_L30 NF v n30 t52 t54 v30 f51 w30 g30
        else
          let t42 : Int32 := f30 5 (l4_30).toNatClampNeg
          let t43 : Int32 := f30 8 (t42).toNatClampNeg
          let f44 : Nat → Nat → Int32 := upd2 f30 7 (upd (f30 7) l3_30.toNatClampNeg t43)
          let t45 : Int32 := l3_30 + 1
          let t47 : Int32 := l4_30 + 1
          gsY_X11_misfitOf_1_L30 NF v n30 t45 t47 v30 f44 w30 g30
      else
        if t39 = 1 then
          if t39 = 0 then
            let t96 : Int32 := f30 5 (l4_30).toNatClampNeg
            let f97 : Nat → Nat → Int32 := upd2 f30 7 (upd (f30 7) l3_30.toNatClampNeg t96)
            let t98 : Int32 := l3_30 + 1
            let t100 : Int32 := l4_30 + 1
            gsY_X11_misfitOf_1_L30 NF v n30 t98 t100 v30 f97 w30 g30
          else
            let t88 : Int32 := f30 5 (l4_30).toNatClampNeg
            let t89 : Int32 := f30 8 (t88).toNatClampNeg
            let f90 : Nat → Nat → Int32 := upd2 f30 7 (upd (f30 7) l3_30.toNatClampNeg t89)
            let t91 : Int32 := l3_30 + 1
            let t93 : Int32 := l4_30 + 1
            gsY_X11_misfitOf_1_L30 NF v n30 t91 t93 v30 f90 w30 g30
        else
          if t39 = 2 then
            let t71 : Int32 := l3_30 - 1
            let t73 : Int32 := f30 7 (t71).toNatClampNeg
            if t73 = 0 then
              let r82 : Int32 := gsY_X11_truth_1 NF 1 v30 f30 w30 g30
              let f84 : Nat → Nat → Int32 := upd2 f30 7 (upd (f30 7) t71.toNatClampNeg r82)
              let t85 : Int32 := l4_30 + 1
              gsY_X11_misfitOf_1_L30 NF v n30 l3_30 t85 v30 f84 w30 g30
            else
              let r76 : Int32 := gsY_X11_truth_1 NF 0 v30 f30 w30 g30
              let f78 : Nat → Nat → Int32 := upd2 f30 7 (upd (f30 7) t71.toNatClampNeg r76)
              let t79 : Int32 := l4_30 + 1
              gsY_X11_misfitOf_1_L30 NF v n30 l3_30 t79 v30 f78 w30 g30
          else
            let t59 : Int32 := l3_30 + (-1)
            let t61 : Int32 := t59 - 1
            let t63 : Int32 := f30 5 (l4_30).toNatClampNeg
            let t64 : Int32 := f30 7 (t61).toNatClampNeg
            let t65 : Int32 := f30 7 (t59).toNatClampNeg
            let r66 : Int32 := gsY_X11_done_1 NF t63 t64 t65 v30 f30 w30 g30
            let f68 : Nat → Nat → Int32 := upd2 f30 7 (upd (f30 7) t61.toNatClampNeg r66)
            let t69 : Int32 := l4_30 + 1
            gsY_X11_misfitOf_1_L30 NF v n30 t59 t69 v30 f68 w30 g30
def gsY_X11_misfitOf_1 (NF : Nat) (p1 : Int32) (p2 : Int32) (v : Nat → Int32) (f : Nat → Nat → Int32) (w : Int64) (g : Nat → Int64) : Int32 × (Nat → Int32) × (Nat → Nat → Int32) × (Int64) × (Nat → Int64) :=
  let t1 : Int32 := f 24 (p1).toNatClampNeg
  let t2 : Int32 := 18 + p2
  let t4 : Int32 := f 24 (t2).toNatClampNeg
  let r5 : Int32 := gsY_X11_over_1 NF t1 t4 v f w g
  let f7 : Nat → Nat → Int32 := upd2 f 8 (upd (f 8) (0 : Int32).toNatClampNeg r5)
  let t8 : Int32 := f7 24 (t2).toNatClampNeg
  let t9 : Int32 := f7 24 (p1).toNatClampNeg
  let r10 : Int32 := gsY_X11_over_1 NF t8 t9 v f7 w g
  let f12 : Nat → Nat → Int32 := upd2 f7 8 (upd (f7 8) (1 : Int32).toNatClampNeg r10)
  let t13 : Int32 := f12 16 (p1).toNatClampNeg
  let t14 : Int32 := 12 + p2
  let t15 : Int32 := f12 24 (t14).toNatClampNeg
  let r16 : Int32 := gsY_X11_over_1 NF t13 t15 v f12 w g
  let f18 : Nat → Nat → Int32 := upd2 f12 8 (upd (f12 8) (2 : Int32).toNatClampNeg r16)
  let t19 : Int32 := f18 24 (t14).toNatClampNeg
  let t20 : Int32 := f18 16 (p1).toNatClampNeg
  let r21 : Int32 := gsY_X11_over_1 NF t19 t20 v f18 w g
  let f23 : Nat → Nat → Int32 := upd2 f18 8 (upd (f18 8) (3 : Int32).toNatClampNeg r21)
  let t24 : Int32 := 30 + p2
  let t25 : Int32 := f23 24 (t24).toNatClampNeg
  let f26 : Nat → Nat → Int32 := upd2 f23 8 (upd (f23 8) (4 : Int32).toNatClampNeg t25)
  let t27 : Int32 := f26 24 (37 : Int32).toNatClampNeg
  let f28 : Nat → Nat → Int32 := upd2 f26 8 (upd (f26 8) (5 : Int32).toNatClampNeg t27)
  if (v 16) = 0 then
    let t103 : Int32 := f28 8 (0 : Int32).toNatClampNeg
    let t104 : Int32 := 3 * t103
    let t105 : Int32 := f28 8 (1 : Int32).toNatClampNeg
    let t106 : Int32 := t104 + t105
    let t107 : Int32 := f28 8 (2 : Int32).toNatClampNeg
    let t108 : Int32 := 2 * t107
    let t109 : Int32 := t106 + t108
    let t110 : Int32 := f28 8 (3 : Int32).toNatClampNeg
    let t111 : Int32 := t109 + t110
    let t112 : Int32 := f28 8 (4 : Int32).toNatClampNeg
    let t113 : Int32 := t111 + t112
    let r114 : Int32 := gsY_X11_within_1 NF t113 999 v f28 w g
    (r114, v, f28, w, g)
  else
    gsY_X11_misfitOf_1_L30 NF v (4294967296 + NF) 0 0 v f28 w g
theorem gsY_X11_misfitOf_1_q8 {NF : Nat} {p1 : Int32} {p2 : Int32} {v : Nat → Int32} {f : Nat → Nat → Int32} {w : Int64} {g : Nat → Int64} {t1 : Int32} {t2 : Int32} {t4 : Int32} {r5 : Int32} {f7 : Nat → Nat → Int32} {t8 : Int32} {t9 : Int32} {r10 : Int32} {f12 : Nat → Nat → Int32} {t13 : Int32} {t14 : Int32} {t15 : Int32} {r16 : Int32} {f18 : Nat → Nat → Int32} {t19 : Int32} {t20 : Int32} {r21 : Int32} {f23 : Nat → Nat → Int32} {t24 : Int32} {t25 : Int32} {f26 : Nat → Nat → Int32} {t27 : Int32} {f28 : Nat → Nat → Int32} (h0 : t1 = f 24 (p1).toNatClampNeg) (h1 : t2 = 18 + p2) (h2 : t4 = f 24 (t2).toNatClampNeg) (h3 : r5 = gsY_X11_over_1 NF t1 t4 v f w g) (h4 : f7 = upd2 f 8 (upd (f 8) (0 : Int32).toNatClampNeg r5)) (h5 : t8 = f7 24 (t2).toNatClampNeg) (h6 : t9 = f7 24 (p1).toNatClampNeg) (h7 : r10 = gsY_X11_over_1 NF t8 t9 v f7 w g) (h8 : f12 = upd2 f7 8 (upd (f7 8) (1 : Int32).toNatClampNeg r10)) (h9 : t13 = f12 16 (p1).toNatClampNeg) (h10 : t14 = 12 + p2) (h11 : t15 = f12 24 (t14).toNatClampNeg) (h12 : r16 = gsY_X11_over_1 NF t13 t15 v f12 w g) (h13 : f18 = upd2 f12 8 (upd (f12 8) (2 : Int32).toNatClampNeg r16)) (h14 : t19 = f18 24 (t14).toNatClampNeg) (h15 : t20 = f18 16 (p1).toNatClampNeg) (h16 : r21 = gsY_X11_over_1 NF t19 t20 v f18 w g) (h17 : f23 = upd2 f18 8 (upd (f18 8) (3 : Int32).toNatClampNeg r21)) (h18 : t24 = 30 + p2) (h19 : t25 = f23 24 (t24).toNatClampNeg) (h20 : f26 = upd2 f23 8 (upd (f23 8) (4 : Int32).toNatClampNeg t25)) (h21 : t27 = f26 24 (37 : Int32).toNatClampNeg) (h22 : f28 = upd2 f26 8 (upd (f26 8) (5 : Int32).toNatClampNeg t27)) (h23 : ¬ ((v 16) = 0)) : gsY_X11_misfitOf_1 NF p1 p2 v f w g = gsY_X11_misfitOf_1_L30 NF v (4294967296 + NF) 0 0 v f28 w g := by
  subst h0 h1 h2 h3 h4 h5 h6 h7 h8 h9 h10 h11 h12 h13 h14 h15 h16 h17 h18 h19 h20 h21 h22
  simp only [gsY_X11_misfitOf_1, if_neg h23]
theorem gsY_X11_misfitOf_1_q9 {NF : Nat} {p1 : Int32} {p2 : Int32} {v : Nat → Int32} {f : Nat → Nat → Int32} {w : Int64} {g : Nat → Int64} {t1 : Int32} {t2 : Int32} {t4 : Int32} {r5 : Int32} {f7 : Nat → Nat → Int32} {t8 : Int32} {t9 : Int32} {r10 : Int32} {f12 : Nat → Nat → Int32} {t13 : Int32} {t14 : Int32} {t15 : Int32} {r16 : Int32} {f18 : Nat → Nat → Int32} {t19 : Int32} {t20 : Int32} {r21 : Int32} {f23 : Nat → Nat → Int32} {t24 : Int32} {t25 : Int32} {f26 : Nat → Nat → Int32} {t27 : Int32} {f28 : Nat → Nat → Int32} {t103 : Int32} {t104 : Int32} {t105 : Int32} {t106 : Int32} {t107 : Int32} {t108 : Int32} {t109 : Int32} {t110 : Int32} {t111 : Int32} {t112 : Int32} {t113 : Int32} {r114 : Int32} (h0 : t1 = f 24 (p1).toNatClampNeg) (h1 : t2 = 18 + p2) (h2 : t4 = f 24 (t2).toNatClampNeg) (h3 : r5 = gsY_X11_over_1 NF t1 t4 v f w g) (h4 : f7 = upd2 f 8 (upd (f 8) (0 : Int32).toNatClampNeg r5)) (h5 : t8 = f7 24 (t2).toNatClampNeg) (h6 : t9 = f7 24 (p1).toNatClampNeg) (h7 : r10 = gsY_X11_over_1 NF t8 t9 v f7 w g) (h8 : f12 = upd2 f7 8 (upd (f7 8) (1 : Int32).toNatClampNeg r10)) (h9 : t13 = f12 16 (p1).toNatClampNeg) (h10 : t14 = 12 + p2) (h11 : t15 = f12 24 (t14).toNatClampNeg) (h12 : r16 = gsY_X11_over_1 NF t13 t15 v f12 w g) (h13 : f18 = upd2 f12 8 (upd (f12 8) (2 : Int32).toNatClampNeg r16)) (h14 : t19 = f18 24 (t14).toNatClampNeg) (h15 : t20 = f18 16 (p1).toNatClampNeg) (h16 : r21 = gsY_X11_over_1 NF t19 t20 v f18 w g) (h17 : f23 = upd2 f18 8 (upd (f18 8) (3 : Int32).toNatClampNeg r21)) (h18 : t24 = 30 + p2) (h19 : t25 = f23 24 (t24).toNatClampNeg) (h20 : f26 = upd2 f23 8 (upd (f23 8) (4 : Int32).toNatClampNeg t25)) (h21 : t27 = f26 24 (37 : Int32).toNatClampNeg) (h22 : f28 = upd2 f26 8 (upd (f26 8) (5 : Int32).toNatClampNeg t27)) (h23 : ((v 16) = 0)) (h24 : t103 = f28 8 (0 : Int32).toNatClampNeg) (h25 : t104 = 3 * t103) (h26 : t105 = f28 8 (1 : Int32).toNatClampNeg) (h27 : t106 = t104 + t105) (h28 : t107 = f28 8 (2 : Int32).toNatClampNeg) (h29 : t108 = 2 * t107) (h30 : t109 = t106 + t108) (h31 : t110 = f28 8 (3 : Int32).toNatClampNeg) (h32 : t111 = t109 + t110) (h33 : t112 = f28 8 (4 : Int32).toNatClampNeg) (h34 : t113 = t111 + t112) (h35 : r114 = gsY_X11_within_1 NF t113 999 v f28 w g) : gsY_X11_misfitOf_1 NF p1 p2 v f w g = (r114, v, f28, w, g) := by
  subst h0 h1 h2 h3 h4 h5 h6 h7 h8 h9 h10 h11 h12 h13 h14 h15 h16 h17 h18 h19 h20 h21 h22 h24 h25 h26 h27 h28 h29 h30 h31 h32 h33 h34 h35
  simp only [gsY_X11_misfitOf_1, if_pos h23]
theorem gsY_X11_misfitOf_1_q0 {NF : Nat} {v : Nat → Int32} {n30 : Nat} {l3_30 : Int32} {l4_30 : Int32} {v30 : Nat → Int32} {f30 : Nat → Nat → Int32} {w30 : Int64} {g30 : Nat → Int64} {t34 : Int32} {r35 : Int32} (h0 : ((v 9) ≤ l4_30)) (h1 : t34 = f30 7 (0 : Int32).toNatClampNeg) (h2 : r35 = gsY_X11_within_1 NF t34 999 v30 f30 w30 g30) : gsY_X11_misfitOf_1_L30 NF v (n30 + 1) l3_30 l4_30 v30 f30 w30 g30 = (r35, v30, f30, w30, g30) := by
  subst h1 h2
  simp only [gsY_X11_misfitOf_1_L30, if_pos h0]
theorem gsY_X11_misfitOf_1_q1 {NF : Nat} {v : Nat → Int32} {n30 : Nat} {l3_30 : Int32} {l4_30 : Int32} {v30 : Nat → Int32} {f30 : Nat → Nat → Int32} {w30 : Int64} {g30 : Nat → Int64} {t39 : Int32} {t42 : Int32} {t43 : Int32} {f44 : Nat → Nat → Int32} {t45 : Int32} {t47 : Int32} (h0 : ¬ ((v 9) ≤ l4_30)) (h1 : t39 = f30 4 (l4_30).toNatClampNeg) (h2 : (t39 = 0)) (h3 : ¬ (t39 = 0)) (h4 : t42 = f30 5 (l4_30).toNatClampNeg) (h5 : t43 = f30 8 (t42).toNatClampNeg) (h6 : f44 = upd2 f30 7 (upd (f30 7) l3_30.toNatClampNeg t43)) (h7 : t45 = l3_30 + 1) (h8 : t47 = l4_30 + 1) : gsY_X11_misfitOf_1_L30 NF v (n30 + 1) l3_30 l4_30 v30 f30 w30 g30 = gsY_X11_misfitOf_1_L30 NF v n30 t45 t47 v30 f44 w30 g30 := by
  exact absurd h2 h3
theorem gsY_X11_misfitOf_1_q2 {NF : Nat} {v : Nat → Int32} {n30 : Nat} {l3_30 : Int32} {l4_30 : Int32} {v30 : Nat → Int32} {f30 : Nat → Nat → Int32} {w30 : Int64} {g30 : Nat → Int64} {t39 : Int32} {t50 : Int32} {f51 : Nat → Nat → Int32} {t52 : Int32} {t54 : Int32} (h0 : ¬ ((v 9) ≤ l4_30)) (h1 : t39 = f30 4 (l4_30).toNatClampNeg) (h2 : (t39 = 0)) (h3 : (t39 = 0)) (h4 : t50 = f30 5 (l4_30).toNatClampNeg) (h5 : f51 = upd2 f30 7 (upd (f30 7) l3_30.toNatClampNeg t50)) (h6 : t52 = l3_30 + 1) (h7 : t54 = l4_30 + 1) : gsY_X11_misfitOf_1_L30 NF v (n30 + 1) l3_30 l4_30 v30 f30 w30 g30 = gsY_X11_misfitOf_1_L30 NF v n30 t52 t54 v30 f51 w30 g30 := by
  subst h1 h4 h5 h6 h7
  simp only [gsY_X11_misfitOf_1_L30, if_neg h0, if_pos h2, if_pos h3]
theorem gsY_X11_misfitOf_1_q3 {NF : Nat} {v : Nat → Int32} {n30 : Nat} {l3_30 : Int32} {l4_30 : Int32} {v30 : Nat → Int32} {f30 : Nat → Nat → Int32} {w30 : Int64} {g30 : Nat → Int64} {t39 : Int32} {t59 : Int32} {t61 : Int32} {t63 : Int32} {t64 : Int32} {t65 : Int32} {r66 : Int32} {f68 : Nat → Nat → Int32} {t69 : Int32} (h0 : ¬ ((v 9) ≤ l4_30)) (h1 : t39 = f30 4 (l4_30).toNatClampNeg) (h2 : ¬ (t39 = 0)) (h3 : ¬ (t39 = 1)) (h4 : ¬ (t39 = 2)) (h5 : t59 = l3_30 + (-1)) (h6 : t61 = t59 - 1) (h7 : t63 = f30 5 (l4_30).toNatClampNeg) (h8 : t64 = f30 7 (t61).toNatClampNeg) (h9 : t65 = f30 7 (t59).toNatClampNeg) (h10 : r66 = gsY_X11_done_1 NF t63 t64 t65 v30 f30 w30 g30) (h11 : f68 = upd2 f30 7 (upd (f30 7) t61.toNatClampNeg r66)) (h12 : t69 = l4_30 + 1) : gsY_X11_misfitOf_1_L30 NF v (n30 + 1) l3_30 l4_30 v30 f30 w30 g30 = gsY_X11_misfitOf_1_L30 NF v n30 t59 t69 v30 f68 w30 g30 := by
  subst h1 h5 h6 h7 h8 h9 h10 h11 h12
  simp only [gsY_X11_misfitOf_1_L30, if_neg h0, if_neg h2, if_neg h3, if_neg h4]
theorem gsY_X11_misfitOf_1_q4 {NF : Nat} {v : Nat → Int32} {n30 : Nat} {l3_30 : Int32} {l4_30 : Int32} {v30 : Nat → Int32} {f30 : Nat → Nat → Int32} {w30 : Int64} {g30 : Nat → Int64} {t39 : Int32} {t71 : Int32} {t73 : Int32} {r76 : Int32} {f78 : Nat → Nat → Int32} {t79 : Int32} (h0 : ¬ ((v 9) ≤ l4_30)) (h1 : t39 = f30 4 (l4_30).toNatClampNeg) (h2 : ¬ (t39 = 0)) (h3 : ¬ (t39 = 1)) (h4 : (t39 = 2)) (h5 : t71 = l3_30 - 1) (h6 : t73 = f30 7 (t71).toNatClampNeg) (h7 : ¬ (t73 = 0)) (h8 : r76 = gsY_X11_truth_1 NF 0 v30 f30 w30 g30) (h9 : f78 = upd2 f30 7 (upd (f30 7) t71.toNatClampNeg r76)) (h10 : t79 = l4_30 + 1) : gsY_X11_misfitOf_1_L30 NF v (n30 + 1) l3_30 l4_30 v30 f30 w30 g30 = gsY_X11_misfitOf_1_L30 NF v n30 l3_30 t79 v30 f78 w30 g30 := by
  subst h1 h5 h6 h8 h9 h10
  simp only [gsY_X11_misfitOf_1_L30, if_neg h0, if_neg h2, if_neg h3, if_pos h4, if_neg h7]
theorem gsY_X11_misfitOf_1_q5 {NF : Nat} {v : Nat → Int32} {n30 : Nat} {l3_30 : Int32} {l4_30 : Int32} {v30 : Nat → Int32} {f30 : Nat → Nat → Int32} {w30 : Int64} {g30 : Nat → Int64} {t39 : Int32} {t71 : Int32} {t73 : Int32} {r82 : Int32} {f84 : Nat → Nat → Int32} {t85 : Int32} (h0 : ¬ ((v 9) ≤ l4_30)) (h1 : t39 = f30 4 (l4_30).toNatClampNeg) (h2 : ¬ (t39 = 0)) (h3 : ¬ (t39 = 1)) (h4 : (t39 = 2)) (h5 : t71 = l3_30 - 1) (h6 : t73 = f30 7 (t71).toNatClampNeg) (h7 : (t73 = 0)) (h8 : r82 = gsY_X11_truth_1 NF 1 v30 f30 w30 g30) (h9 : f84 = upd2 f30 7 (upd (f30 7) t71.toNatClampNeg r82)) (h10 : t85 = l4_30 + 1) : gsY_X11_misfitOf_1_L30 NF v (n30 + 1) l3_30 l4_30 v30 f30 w30 g30 = gsY_X11_misfitOf_1_L30 NF v n30 l3_30 t85 v30 f84 w30 g30 := by
  subst h1 h5 h6 h8 h9 h10
  simp only [gsY_X11_misfitOf_1_L30, if_neg h0, if_neg h2, if_neg h3, if_pos h4, if_pos h7]
theorem gsY_X11_misfitOf_1_q6 {NF : Nat} {v : Nat → Int32} {n30 : Nat} {l3_30 : Int32} {l4_30 : Int32} {v30 : Nat → Int32} {f30 : Nat → Nat → Int32} {w30 : Int64} {g30 : Nat → Int64} {t39 : Int32} {t88 : Int32} {t89 : Int32} {f90 : Nat → Nat → Int32} {t91 : Int32} {t93 : Int32} (h0 : ¬ ((v 9) ≤ l4_30)) (h1 : t39 = f30 4 (l4_30).toNatClampNeg) (h2 : ¬ (t39 = 0)) (h3 : (t39 = 1)) (h4 : ¬ (t39 = 0)) (h5 : t88 = f30 5 (l4_30).toNatClampNeg) (h6 : t89 = f30 8 (t88).toNatClampNeg) (h7 : f90 = upd2 f30 7 (upd (f30 7) l3_30.toNatClampNeg t89)) (h8 : t91 = l3_30 + 1) (h9 : t93 = l4_30 + 1) : gsY_X11_misfitOf_1_L30 NF v (n30 + 1) l3_30 l4_30 v30 f30 w30 g30 = gsY_X11_misfitOf_1_L30 NF v n30 t91 t93 v30 f90 w30 g30 := by
  subst h1 h5 h6 h7 h8 h9
  simp only [gsY_X11_misfitOf_1_L30, if_neg h0, if_neg h2, if_pos h3, if_neg h4]
theorem gsY_X11_misfitOf_1_q7 {NF : Nat} {v : Nat → Int32} {n30 : Nat} {l3_30 : Int32} {l4_30 : Int32} {v30 : Nat → Int32} {f30 : Nat → Nat → Int32} {w30 : Int64} {g30 : Nat → Int64} {t39 : Int32} {t96 : Int32} {f97 : Nat → Nat → Int32} {t98 : Int32} {t100 : Int32} (h0 : ¬ ((v 9) ≤ l4_30)) (h1 : t39 = f30 4 (l4_30).toNatClampNeg) (h2 : ¬ (t39 = 0)) (h3 : (t39 = 1)) (h4 : (t39 = 0)) (h5 : t96 = f30 5 (l4_30).toNatClampNeg) (h6 : f97 = upd2 f30 7 (upd (f30 7) l3_30.toNatClampNeg t96)) (h7 : t98 = l3_30 + 1) (h8 : t100 = l4_30 + 1) : gsY_X11_misfitOf_1_L30 NF v (n30 + 1) l3_30 l4_30 v30 f30 w30 g30 = gsY_X11_misfitOf_1_L30 NF v n30 t98 t100 v30 f97 w30 g30 := by
  exact absurd h4 h2
