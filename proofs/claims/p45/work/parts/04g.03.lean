def gsY_X11_misfitOf_1_L30 (NF : Nat) (v : Nat → Int32) : Nat → (Int32) → (Int32) → (Nat → Int32) → (Nat → Nat → Int32) → (Int64) → (Nat → Int64) → Int32 × (Nat → Int32) × (Nat → Nat → Int32) × (Int64) × (Nat → Int64)
  | 0, _, _, _, _, _, _ => (0, (fun _ => 0), (fun _ _ => 0), 0, (fun _ => 0))
  | n30 + 1, l3_30, l4_30, v30, f30, w30, g30 =>
    if (v 9) ≤ l4_30 then
      let t34 : Int32 := f30 7 (0 : Int32).toNatClampNeg
      let r35 : Int32 := gsY_X11_within_1 NF t34 999 v30 f30 w30 g30
      (r35, v30, f30, w30, g30)
    else
      let t39 : Int32 := f30 4 (l4_30).toNatClampNeg
      if t39 = 0 then
        if t39 = 0 then
          let t50 : Int32 := f30 5 (l4_30).toNatClampNeg
          let f51 : Nat → Nat → Int32 := upd2 f30 7 (upd (f30 7) l3_30.toNatClampNeg t50)
          let t52 : Int32 := l3_30 + 1
          let t54 : Int32 := l4_30 + 1
          gsY_X11_misfitOf_1_L30 NF v n30 t52 t54 v30 f51 w30 g30
        else
          let t42 : Int32 := f30 5 (l4_30).toNatClampNeg
          let t43 : Int32 := f30 8 (t42).toNatClampNeg
          let f44 : Nat → Nat → Int32 := upd2 f30 7 (upd (f30 7) l3_30.toNatClampNeg t43)
          let t45 : Int32 := l3_30 + 1
          let t47 : Int32 := l4_30 + 1
          gsY_X11_misfitOf_1_L30 NF v n30 t45 t47 v30 f44 w30 g30
      else
        if t39 = 1 then
          if t39 = 0 then
            let t96 : Int32 := f30 5 (l4_30).toNatClampNeg
            let f97 : Nat → Nat → Int32 := upd2 f30 7 (upd (f30 7) l3_30.toNatClampNeg t96)
            let t98 : Int32 := l3_30 + 1
            let t100 : Int32 := l4_30 + 1
            gsY_X11_misfitOf_1_L30 NF v n30 t98 t100 v30 f97 w30 g30
          else
            let t88 : Int32 := f30 5 (l4_30).toNatClampNeg
            let t89 : Int32 := f30 8 (t88).toNatClampNeg
            let f90 : Nat → Nat → Int32 := upd2 f30 7 (upd (f30 7) l3_30.toNatClampNeg t89)
            let t91 : Int32 := l3_30 + 1
            let t93 : Int32 := l4_30 + 1
            gsY_X11_misfitOf_1_L30 NF v n30 t91 t93 v30 f90 w30 g30
        else
          if t39 = 2 then
            let t71 : Int32 := l3_30 - 1
            let t73 : Int32 := f30 7 (t71).toNatClampNeg
            if t73 = 0 then
              let r82 : Int32 := gsY_X11_truth_1 NF 1 v30 f30 w30 g30
              let f84 : Nat → Nat → Int32 := upd2 f30 7 (upd (f30 7) t71.toNatClampNeg r82)
              let t85 : Int32 := l4_30 + 1
              gsY_X11_misfitOf_1_L30 NF v n30 l3_30 t85 v30 f84 w30 g30
            else
              let r76 : Int32 := gsY_X11_truth_1 NF 0 v30 f30 w30 g30
              let f78 : Nat → Nat → Int32 := upd2 f30 7 (upd (f30 7) t71.toNatClampNeg r76)
              let t79 : Int32 := l4_30 + 1
              gsY_X11_misfitOf_1_L30 NF v n30 l3_30 t79 v30 f78 w30 g30
          else
            let t59 : Int32 := l3_30 + (-1)
            let t61 : Int32 := t59 - 1
            let t63 : Int32 := f30 5 (l4_30).toNatClampNeg
            let t64 : Int32 := f30 7 (t61).toNatClampNeg
            let t65 : Int32 := f30 7 (t59).toNatClampNeg
            let r66 : Int32 := gsY_X11_done_1 NF t63 t64 t65 v30 f30 w30 g30
            let f68 : Nat → Nat → Int32 := upd2 f30 7 (upd (f30 7) t61.toNatClampNeg r66)
            let t69 : Int32 := l4_30 + 1
            gsY_X11_misfitOf_1_L30 NF v n30 t59 t69 v30 f68 w30 g30
def gsY_X11_misfitOf_1 (NF : Nat) (p1 : Int32) (p2 : Int32) (v : Nat → Int32) (f : Nat → Nat → Int32) (w : Int64) (g : Nat → Int64) : Int32 × (Nat → Int32) × (Nat → Nat → Int32) × (Int64) × (Nat → Int64) :=
  let t1 : Int32 := f 24 (p1).toNatClampNeg
  let t2 : Int32 := 18 + p2
  let t4 : Int32 := f 24 (t2).toNatClampNeg
  let r5 : Int32 := gsY_X11_over_1 NF t1 t4 v f w g
  let f7 : Nat → Nat → Int32 := upd2 f 8 (upd (f 8) (0 : Int32).toNatClampNeg r5)
  let t8 : Int32 := f7 24 (t2).toNatClampNeg
  let t9 : Int32 := f7 24 (p1).toNatClampNeg
  let r10 : Int32 := gsY_X11_over_1 NF t8 t9 v f7 w g
  let f12 : Nat → Nat → Int32 := upd2 f7 8 (upd (f7 8) (1 : Int32).toNatClampNeg r10)
  let t13 : Int32 := f12 16 (p1).toNatClampNeg
  let t14 : Int32 := 12 + p2
  let t15 : Int32 := f12 24 (t14).toNatClampNeg
  let r16 : Int32 := gsY_X11_over_1 NF t13 t15 v f12 w g
  let f18 : Nat → Nat → Int32 := upd2 f12 8 (upd (f12 8) (2 : Int32).toNatClampNeg r16)
  let t19 : Int32 := f18 24 (t14).toNatClampNeg
  let t20 : Int32 := f18 16 (p1).toNatClampNeg
  let r21 : Int32 := gsY_X11_over_1 NF t19 t20 v f18 w g
  let f23 : Nat → Nat → Int32 := upd2 f18 8 (upd (f18 8) (3 : Int32).toNatClampNeg r21)
  let t24 : Int32 := 30 + p2
  let t25 : Int32 := f23 24 (t24).toNatClampNeg
  let f26 : Nat → Nat → Int32 := upd2 f23 8 (upd (f23 8) (4 : Int32).toNatClampNeg t25)
  let t27 : Int32 := f26 24 (37 : Int32).toNatClampNeg
  let f28 : Nat → Nat → Int32 := upd2 f26 8 (upd (f26 8) (5 : Int32).toNatClampNeg t27)
  if (v 16) = 0 then
    let t103 : Int32 := f28 8 (0 : Int32).toNatClampNeg
    let t104 : Int32 := 3 * t103
    let t105 : Int32 := f28 8 (1 : Int32).toNatClampNeg
    let t106 : Int32 := t104 + t105
    let t107 : Int32 := f28 8 (2 : Int32).toNatClampNeg
    let t108 : Int32 := 2 * t107
    let t109 : Int32 := t106 + t108
    let t110 : Int32 := f28 8 (3 : Int32).toNatClampNeg
    let t111 : Int32 := t109 + t110
    let t112 : Int32 := f28 8 (4 : Int32).toNatClampNeg
    let t113 : Int32 := t111 + t112
    let r114 : Int32 := gsY_X11_within_1 NF t113 999 v f28 w g
    (r114, v, f28, w, g)
  else
    gsY_X11_misfitOf_1_L30 NF v (4294967296 + NF) 0 0 v f28 w g
theorem gsY_X11_misfitOf_1_q8 {NF : Nat} {p1 : Int32} {p2 : Int32} {v : Nat → Int32} {f : Nat → Nat → Int32} {w : Int64} {g : Nat → Int64} {t1 : Int32} {t2 : Int32} {t4 : Int32} {r5 : Int32} {f7 : Nat → Nat → Int32} {t8 : Int32} {t9 : Int32} {r10 : Int32} {f12 : Nat → Nat → Int32} {t13 : Int32} {t14 : Int32} {t15 : Int32} {r16 : Int32} {f18 : Nat → Nat → Int32} {t19 : Int32} {t20 : Int32} {r21 : Int32} {f23 : Nat → Nat → Int32} {t24 : Int32} {t25 : Int32} {f26 : Nat → Nat → Int32} {t27 : Int32} {f28 : Nat → Nat → Int32} (h0 : t1 = f 24 (p1).toNatClampNeg) (h1 : t2 = 18 + p2) (h2 : t4 = f 24 (t2).toNatClampNeg) (h3 : r5 = gsY_X11_over_1 NF t1 t4 v f w g) (h4 : f7 = upd2 f 8 (upd (f 8) (0 : Int32).toNatClampNeg r5)) (h5 : t8 = f7 24 (t2).toNatClampNeg) (h6 : t9 = f7 24 (p1).toNatClampNeg) (h7 : r10 = gsY_X11_over_1 NF t8 t9 v f7 w g) (h8 : f12 = upd2 f7 8 (upd (f7 8) (1 : Int32).toNatClampNeg r10)) (h9 : t13 = f12 16 (p1).toNatClampNeg) (h10 : t14 = 12 + p2) (h11 : t15 = f12 24 (t14).toNatClampNeg) (h12 : r16 = gsY_X11_over_1 NF t13 t15 v f12 w g) (h13 : f18 = upd2 f12 8 (upd (f12 8) (2 : Int32).toNatClampNeg r16)) (h14 : t19 = f18 24 (t14).toNatClampNeg) (h15 : t20 = f18 16 (p1).toNatClampNeg) (h16 : r21 = gsY_X11_over_1 NF t19 t20 v f18 w g) (h17 : f23 = upd2 f18 8 (upd (f18 8) (3 : Int32).toNatClampNeg r21)) (h18 : t24 = 30 + p2) (h19 : t25 = f23 24 (t24).toNatClampNeg) (h20 : f26 = upd2 f23 8 (upd (f23 8) (4 : Int32).toNatClampNeg t25)) (h21 : t27 = f26 24 (37 : Int32).toNatClampNeg) (h22 : f28 = upd2 f26 8 (upd (f26 8) (5 : Int32).toNatClampNeg t27)) (h23 : ¬ ((v 16) = 0)) : gsY_X11_misfitOf_1 NF p1 p2 v f w g = gsY_X11_misfitOf_1_L30 NF v (4294967296 + NF) 0 0 v f28 w g := by
  subst h0 h1 h2 h3 h4 h5 h6 h7 h8 h9 h10 h11 h12 h13 h14 h15 h16 h17 h18 h19 h20 h21 h22
  simp only [gsY_X11_misfitOf_1, if_neg h23]
theorem gsY_X11_misfitOf_1_q9 {NF : Nat} {p1 : Int32} {p2 : Int32} {v : Nat → Int32} {f : Nat → Nat → Int32} {w : Int64} {g : Nat → Int64} {t1 : Int32} {t2 : Int32} {t4 : Int32} {r5 : Int32} {f7 : Nat → Nat → Int32} {t8 : Int32} {t9 : Int32} {r10 : Int32} {f12 : Nat → Nat → Int32} {t13 : Int32} {t14 : Int32} {t15 : Int32} {r16 : Int32} {f18 : Nat → Nat → Int32} {t19 : Int32} {t20 : Int32} {r21 : Int32} {f23 : Nat → Nat → Int32} {t24 : Int32} {t25 : Int32} {f26 : Nat → Nat → Int32} {t27 : Int32} {f28 : Nat → Nat → Int32} {t103 : Int32} {t104 : Int32} {t105 : Int32} {t106 : Int32} {t107 : Int32} {t108 : Int32} {t109 : Int32} {t110 : Int32} {t111 : Int32} {t112 : Int32} {t113 : Int32} {r114 : Int32} (h0 : t1 = f 24 (p1).toNatClampNeg) (h1 : t2 = 18 + p2) (h2 : t4 = f 24 (t2).toNatClampNeg) (h3 : r5 = gsY_X11_over_1 NF t1 t4 v f w g) (h4 : f7 = upd2 f 8 (upd (f 8) (0 : Int32).toNatClampNeg r5)) (h5 : t8 = f7 24 (t2).toNatClampNeg) (h6 : t9 = f7 24 (p1).toNatClampNeg) (h7 : r10 = gsY_X11_over_1 NF t8 t9 v f7 w g) (h8 : f12 = upd2 f7 8 (upd (f7 8) (1 : Int32).toNatClampNeg r10)) (h9 : t13 = f12 16 (p1).toNatClampNeg) (h10 : t14 = 12 + p2) (h11 : t15 = f12 24 (t14).toNatClampNeg) (h12 : r16 = gsY_X11_over_1 NF t13 t15 v f12 w g) (h13 : f18 = upd2 f12 8 (upd (f12 8) (2 : Int32).toNatClampNeg r16)) (h14 : t19 = f18 24 (t14).toNatClampNeg) (h15 : t20 = f18 16 (p1).toNatClampNeg) (h16 : r21 = gsY_X11_over_1 NF t19 t20 v f18 w g) (h17 : f23 = upd2 f18 8 (upd (f18 8) (3 : Int32).toNatClampNeg r21)) (h18 : t24 = 30 + p2) (h19 : t25 = f23 24 (t24).toNatClampNeg) (h20 : f26 = upd2 f23 8 (upd (f23 8) (4 : Int32).toNatClampNeg t25)) (h21 : t27 = f26 24 (37 : Int32).toNatClampNeg) (h22 : f28 = upd2 f26 8 (upd (f26 8) (5 : Int32).toNatClampNeg t27)) (h23 : ((v 16) = 0)) (h24 : t103 = f28 8 (0 : Int32).toNatClampNeg) (h25 : t104 = 3 * t103) (h26 : t105 = f28 8 (1 : Int32).toNatClampNeg) (h27 : t106 = t104 + t105) (h28 : t107 = f28 8 (2 : Int32).toNatClampNeg) (h29 : t108 = 2 * t107) (h30 : t109 = t106 + t108) (h31 : t110 = f28 8 (3 : Int32).toNatClampNeg) (h32 : t111 = t109 + t110) (h33 : t112 = f28 8 (4 : Int32).toNatClampNeg) (h34 : t113 = t111 + t112) (h35 : r114 = gsY_X11_within_1 NF t113 999 v f28 w g) : gsY_X11_misfitOf_1 NF p1 p2 v f w g = (r114, v, f28, w, g) := by
  subst h0 h1 h2 h3 h4 h5 h6 h7 h8 h9 h10 h11 h12 h13 h14 h15 h16 h17 h18 h19 h20 h21 h22 h24 h25 h26 h27 h28 h29 h30 h31 h32 h33 h34 h35
  simp only [gsY_X11_misfitOf_1, if_pos h23]
theorem gsY_X11_misfitOf_1_q0 {NF : Nat} {v : Nat → Int32} {n30 : Nat} {l3_30 : Int32} {l4_30 : Int32} {v30 : Nat → Int32} {f30 : Nat → Nat → Int32} {w30 : Int64} {g30 : Nat → Int64} {t34 : Int32} {r35 : Int32} (h0 : ((v 9) ≤ l4_30)) (h1 : t34 = f30 7 (0 : Int32).toNatClampNeg) (h2 : r35 = gsY_X11_within_1 NF t34 999 v30 f30 w30 g30) : gsY_X11_misfitOf_1_L30 NF v (n30 + 1) l3_30 l4_30 v30 f30 w30 g30 = (r35, v30, f30, w30, g30) := by
  subst h1 h2
  simp only [gsY_X11_misfitOf_1_L30, if_pos h0]
theorem gsY_X11_misfitOf_1_q1 {NF : Nat} {v : Nat → Int32} {n30 : Nat} {l3_30 : Int32} {l4_30 : Int32} {v30 : Nat → Int32} {f30 : Nat → Nat → Int32} {w30 : Int64} {g30 : Nat → Int64} {t39 : Int32} {t42 : Int32} {t43 : Int32} {f44 : Nat → Nat → Int32} {t45 : Int32} {t47 : Int32} (h0 : ¬ ((v 9) ≤ l4_30)) (h1 : t39 = f30 4 (l4_30).toNatClampNeg) (h2 : (t39 = 0)) (h3 : ¬ (t39 = 0)) (h4 : t42 = f30 5 (l4_30).toNatClampNeg) (h5 : t43 = f30 8 (t42).toNatClampNeg) (h6 : f44 = upd2 f30 7 (upd (f30 7) l3_30.toNatClampNeg t43)) (h7 : t45 = l3_30 + 1) (h8 : t47 = l4_30 + 1) : gsY_X11_misfitOf_1_L30 NF v (n30 + 1) l3_30 l4_30 v30 f30 w30 g30 = gsY_X11_misfitOf_1_L30 NF v n30 t45 t47 v30 f44 w30 g30 := by
  exact absurd h2 h3
theorem gsY_X11_misfitOf_1_q2 {NF : Nat} {v : Nat → Int32} {n30 : Nat} {l3_30 : Int32} {l4_30 : Int32} {v30 : Nat → Int32} {f30 : Nat → Nat → Int32} {w30 : Int64} {g30 : Nat → Int64} {t39 : Int32} {t50 : Int32} {f51 : Nat → Nat → Int32} {t52 : Int32} {t54 : Int32} (h0 : ¬ ((v 9) ≤ l4_30)) (h1 : t39 = f30 4 (l4_30).toNatClampNeg) (h2 : (t39 = 0)) (h3 : (t39 = 0)) (h4 : t50 = f30 5 (l4_30).toNatClampNeg) (h5 : f51 = upd2 f30 7 (upd (f30 7) l3_30.toNatClampNeg t50)) (h6 : t52 = l3_30 + 1) (h7 : t54 = l4_30 + 1) : gsY_X11_misfitOf_1_L30 NF v (n30 + 1) l3_30 l4_30 v30 f30 w30 g30 = gsY_X11_misfitOf_1_L30 NF v n30 t52 t54 v30 f51 w30 g30 := by
  subst h1 h4 h5 h6 h7
  simp only [gsY_X11_misfitOf_1_L30, if_neg h0, if_pos h2, if_pos h3]
theorem gsY_X11_misfitOf_1_q3 {NF : Nat} {v : Nat → Int32} {n30 : Nat} {l3_30 : Int32} {l4_30 : Int32} {v30 : Nat → Int32} {f30 : Nat → Nat → Int32} {w30 : Int64} {g30 : Nat → Int64} {t39 : Int32} {t59 : Int32} {t61 : Int32} {t63 : Int32} {t64 : Int32} {t65 : Int32} {r66 : Int32} {f68 : Nat → Nat → Int32} {t69 : Int32} (h0 : ¬ ((v 9) ≤ l4_30)) (h1 : t39 = f30 4 (l4_30).toNatClampNeg) (h2 : ¬ (t39 = 0)) (h3 : ¬ (t39 = 1)) (h4 : ¬ (t39 = 2)) (h5 : t59 = l3_30 + (-1)) (h6 : t61 = t59 - 1) (h7 : t63 = f30 5 (l4_30).toNatClampNeg) (h8 : t64 = f30 7 (t61).toNatClampNeg) (h9 : t65 = f30 7 (t59).toNatClampNeg) (h10 : r66 = gsY_X11_done_1 NF t63 t64 t65 v30 f30 w30 g30) (h11 : f68 = upd2 f30 7 (upd (f30 7) t61.toNatClampNeg r66)) (h12 : t69 = l4_30 + 1) : gsY_X11_misfitOf_1_L30 NF v (n30 + 1) l3_30 l4_30 v30 f30 w30 g30 = gsY_X11_misfitOf_1_L30 NF v n30 t59 t69 v30 f68 w30 g30 := by
  subst h1 h5 h6 h7 h8 h9 h10 h11 h12
  simp only [gsY_X11_misfitOf_1_L30, if_neg h0, if_neg h2, if_neg h3, if_neg h4]
theorem gsY_X11_misfitOf_1_q4 {NF : Nat} {v : Nat → Int32} {n30 : Nat} {l3_30 : Int32} {l4_30 : Int32} {v30 : Nat → Int32} {f30 : Nat → Nat → Int32} {w30 : Int64} {g30 : Nat → Int64} {t39 : Int32} {t71 : Int32} {t73 : Int32} {r76 : Int32} {f78 : Nat → Nat → Int32} {t79 : Int32} (h0 : ¬ ((v 9) ≤ l4_30)) (h1 : t39 = f30 4 (l4_30).toNatClampNeg) (h2 : ¬ (t39 = 0)) (h3 : ¬ (t39 = 1)) (h4 : (t39 = 2)) (h5 : t71 = l3_30 - 1) (h6 : t73 = f30 7 (t71).toNatClampNeg) (h7 : ¬ (t73 = 0)) (h8 : r76 = gsY_X11_truth_1 NF 0 v30 f30 w30 g30) (h9 : f78 = upd2 f30 7 (upd (f30 7) t71.toNatClampNeg r76)) (h10 : t79 = l4_30 + 1) : gsY_X11_misfitOf_1_L30 NF v (n30 + 1) l3_30 l4_30 v30 f30 w30 g30 = gsY_X11_misfitOf_1_L30 NF v n30 l3_30 t79 v30 f78 w30 g30 := by
  subst h1 h5 h6 h8 h9 h10
  simp only [gsY_X11_misfitOf_1_L30, if_neg h0, if_neg h2, if_neg h3, if_pos h4, if_neg h7]
theorem gsY_X11_misfitOf_1_q5 {NF : Nat} {v : Nat → Int32} {n30 : Nat} {l3_30 : Int32} {l4_30 : Int32} {v30 : Nat → Int32} {f30 : Nat → Nat → Int32} {w30 : Int64} {g30 : Nat → Int64} {t39 : Int32} {t71 : Int32} {t73 : Int32} {r82 : Int32} {f84 : Nat → Nat → Int32} {t85 : Int32} (h0 : ¬ ((v 9) ≤ l4_30)) (h1 : t39 = f30 4 (l4_30).toNatClampNeg) (h2 : ¬ (t39 = 0)) (h3 : ¬ (t39 = 1)) (h4 : (t39 = 2)) (h5 : t71 = l3_30 - 1) (h6 : t73 = f30 7 (t71).toNatClampNeg) (h7 : (t73 = 0)) (h8 : r82 = gsY_X11_truth_1 NF 1 v30 f30 w30 g30) (h9 : f84 = upd2 f30 7 (upd (f30 7) t71.toNatClampNeg r82)) (h10 : t85 = l4_30 + 1) : gsY_X11_misfitOf_1_L30 NF v (n30 + 1) l3_30 l4_30 v30 f30 w30 g30 = gsY_X11_misfitOf_1_L30 NF v n30 l3_30 t85 v30 f84 w30 g30 := by
  subst h1 h5 h6 h8 h9 h10
  simp only [gsY_X11_misfitOf_1_L30, if_neg h0, if_neg h2, if_neg h3, if_pos h4, if_pos h7]
theorem gsY_X11_misfitOf_1_q6 {NF : Nat} {v : Nat → Int32} {n30 : Nat} {l3_30 : Int32} {l4_30 : Int32} {v30 : Nat → Int32} {f30 : Nat → Nat → Int32} {w30 : Int64} {g30 : Nat → Int64} {t39 : Int32} {t88 : Int32} {t89 : Int32} {f90 : Nat → Nat → Int32} {t91 : Int32} {t93 : Int32} (h0 : ¬ ((v 9) ≤ l4_30)) (h1 : t39 = f30 4 (l4_30).toNatClampNeg) (h2 : ¬ (t39 = 0)) (h3 : (t39 = 1)) (h4 : ¬ (t39 = 0)) (h5 : t88 = f30 5 (l4_30).toNatClampNeg) (h6 : t89 = f30 8 (t88).toNatClampNeg) (h7 : f90 = upd2 f30 7 (upd (f30 7) l3_30.toNatClampNeg t89)) (h8 : t91 = l3_30 + 1) (h9 : t93 = l4_30 + 1) : gsY_X11_misfitOf_1_L30 NF v (n30 + 1) l3_30 l4_30 v30 f30 w30 g30 = gsY_X11_misfitOf_1_L30 NF v n30 t91 t93 v30 f90 w30 g30 := by
  subst h1 h5 h6 h7 h8 h9
  simp only [gsY_X11_misfitOf_1_L30, if_neg h0, if_neg h2, if_pos h3, if_neg h4]
theorem gsY_X11_misfitOf_1_q7 {NF : Nat} {v : Nat → Int32} {n30 : Nat} {l3_30 : Int32} {l4_30 : Int32} {v30 : Nat → Int32} {f30 : Nat → Nat → Int32} {w30 : Int64} {g30 : Nat → Int64} {t39 : Int32} {t96 : Int32} {f97 : Nat → Nat → Int32} {t98 : Int32} {t100 : Int32} (h0 : ¬ ((v 9) ≤ l4_30)) (h1 : t39 = f30 4 (l4_30).toNatClampNeg) (h2 : ¬ (t39 = 0)) (h3 : (t39 = 1)) (h4 : (t39 = 0)) (h5 : t96 = f30 5 (l4_30).toNatClampNeg) (h6 : f97 = upd2 f30 7 (upd (f30 7) l3_30.toNatClampNeg t96)) (h7 : t98 = l3_30 + 1) (h8 : t100 = l4_30 + 1) : gsY_X11_misfitOf_1_L30 NF v (n30 + 1) l3_30 l4_30 v30 f30 w30 g30 = gsY_X11_misfitOf_1_L30 NF v n30 t98 t100 v30 f97 w30 g30 := by
  exact absurd h4 h2
def gsY_X11_misfit_1 (NF : Nat) (p1 : Int32) (p2 : Int32) (v : Nat → Int32) (f : Nat → Nat → Int32) (w : Int64) (g : Nat → Int64) : Int32 × (Nat → Int32) × (Nat → Nat → Int32) × (Int64) × (Nat → Int64) :=
  match gsY_X11_fill_1 NF v f w g with
  | (v2, f3, w4, g5) =>
    if gsY_X11_isMan_1 NF p1 v2 f3 w4 g5 = 1 then
      if gsY_X11_isCoat_1 NF p2 v2 f3 w4 g5 = 1 then
        match gsY_X11_misfitOf_1 NF p1 p2 v2 f3 w4 g5 with
        | (r12, v14, f15, w16, g17) =>
          (r12, v14, f15, w16, g17)
      else
        ((-1), v2, f3, w4, g5)
    else
      ((-1), v2, f3, w4, g5)
theorem gsY_X11_misfit_1_q0 {NF : Nat} {p1 : Int32} {p2 : Int32} {v : Nat → Int32} {f : Nat → Nat → Int32} {w : Int64} {g : Nat → Int64} {v2 : Nat → Int32} {f3 : Nat → Nat → Int32} {w4 : Int64} {g5 : Nat → Int64} {r12 : Int32} {v14 : Nat → Int32} {f15 : Nat → Nat → Int32} {w16 : Int64} {g17 : Nat → Int64} (h0 : gsY_X11_fill_1 NF v f w g = (v2, f3, w4, g5)) (h1 : gsY_X11_isMan_1 NF p1 v2 f3 w4 g5 = 1) (h2 : gsY_X11_isCoat_1 NF p2 v2 f3 w4 g5 = 1) (h3 : gsY_X11_misfitOf_1 NF p1 p2 v2 f3 w4 g5 = (r12, v14, f15, w16, g17)) : gsY_X11_misfit_1 NF p1 p2 v f w g = (r12, v14, f15, w16, g17) := by
  simp only [gsY_X11_misfit_1, h0, h1, h2, h3, ite11, ite01, if_true, if_false]
theorem gsY_X11_misfit_1_q1 {NF : Nat} {p1 : Int32} {p2 : Int32} {v : Nat → Int32} {f : Nat → Nat → Int32} {w : Int64} {g : Nat → Int64} {v2 : Nat → Int32} {f3 : Nat → Nat → Int32} {w4 : Int64} {g5 : Nat → Int64} (h0 : gsY_X11_fill_1 NF v f w g = (v2, f3, w4, g5)) (h1 : gsY_X11_isMan_1 NF p1 v2 f3 w4 g5 = 1) (h2 : gsY_X11_isCoat_1 NF p2 v2 f3 w4 g5 = 0) : gsY_X11_misfit_1 NF p1 p2 v f w g = ((-1), v2, f3, w4, g5) := by
  simp only [gsY_X11_misfit_1, h0, h1, h2, ite11, ite01, if_true, if_false]
theorem gsY_X11_misfit_1_q2 {NF : Nat} {p1 : Int32} {p2 : Int32} {v : Nat → Int32} {f : Nat → Nat → Int32} {w : Int64} {g : Nat → Int64} {v2 : Nat → Int32} {f3 : Nat → Nat → Int32} {w4 : Int64} {g5 : Nat → Int64} (h0 : gsY_X11_fill_1 NF v f w g = (v2, f3, w4, g5)) (h1 : gsY_X11_isMan_1 NF p1 v2 f3 w4 g5 = 0) : gsY_X11_misfit_1 NF p1 p2 v f w g = ((-1), v2, f3, w4, g5) := by
  simp only [gsY_X11_misfit_1, h0, h1, ite11, ite01, if_true, if_false]
def gsY_X11_fitsGrowth_1_L1 (NF : Nat) (p1 : Int32) (p2 : Int32) (v : Nat → Int32) (f : Nat → Nat → Int32) : Nat → (Int32) → (Int32) → Int32
  | 0, _, _ => 0
  | n1 + 1, l3_1, l4_1 =>
    if (v 38) ≤ l4_1 then
      l3_1
    else
      if l3_1 = 0 then
        l3_1
      else
        let t10 : Int32 := f 31 (l4_1).toNatClampNeg
        if p2 < t10 then
          let t14 : Int32 := l4_1 + 1
          gsY_X11_fitsGrowth_1_L1 NF p1 p2 v f n1 l3_1 t14
        else
          let t19 : Int32 := f 32 (l4_1).toNatClampNeg
          if t19 < 0 then
            let t21 : Int32 := 21 * p1
            let t23 : Int32 := f 30 (l4_1).toNatClampNeg
            let t24 : Int32 := t21 + t23
            let t27 : Int32 := f 34 (t24).toNatClampNeg
            let t28 : Int32 := f 33 (l4_1).toNatClampNeg
            if t27 = t28 then
              let t36 : Int32 := l4_1 + 1
              gsY_X11_fitsGrowth_1_L1 NF p1 p2 v f n1 1 t36
            else
              let t32 : Int32 := l4_1 + 1
              gsY_X11_fitsGrowth_1_L1 NF p1 p2 v f n1 0 t32
          else
            if p2 < t19 then
              let t40 : Int32 := 21 * p1
              let t42 : Int32 := f 30 (l4_1).toNatClampNeg
              let t43 : Int32 := t40 + t42
              let t46 : Int32 := f 34 (t43).toNatClampNeg
              let t47 : Int32 := f 33 (l4_1).toNatClampNeg
              if t46 = t47 then
                let t55 : Int32 := l4_1 + 1
                gsY_X11_fitsGrowth_1_L1 NF p1 p2 v f n1 1 t55
              else
                let t51 : Int32 := l4_1 + 1
                gsY_X11_fitsGrowth_1_L1 NF p1 p2 v f n1 0 t51
            else
              let t58 : Int32 := l4_1 + 1
              gsY_X11_fitsGrowth_1_L1 NF p1 p2 v f n1 l3_1 t58
def gsY_X11_fitsGrowth_1 (NF : Nat) (p1 : Int32) (p2 : Int32) (v : Nat → Int32) (f : Nat → Nat → Int32) (w : Int64) (g : Nat → Int64) : Int32 :=
  gsY_X11_fitsGrowth_1_L1 NF p1 p2 v f (4294967296 + NF) 1 0
theorem gsY_X11_fitsGrowth_1_q8 {NF : Nat} {p1 : Int32} {p2 : Int32} {v : Nat → Int32} {f : Nat → Nat → Int32} {w : Int64} {g : Nat → Int64}  : gsY_X11_fitsGrowth_1 NF p1 p2 v f w g = gsY_X11_fitsGrowth_1_L1 NF p1 p2 v f (4294967296 + NF) 1 0 := by
  simp only [gsY_X11_fitsGrowth_1]
theorem gsY_X11_fitsGrowth_1_q0 {NF : Nat} {p1 : Int32} {p2 : Int32} {v : Nat → Int32} {f : Nat → Nat → Int32} {n1 : Nat} {l3_1 : Int32} {l4_1 : Int32} (h0 : ((v 38) ≤ l4_1)) : gsY_X11_fitsGrowth_1_L1 NF p1 p2 v f (n1 + 1) l3_1 l4_1 = l3_1 := by
  simp only [gsY_X11_fitsGrowth_1_L1, if_pos h0]
theorem gsY_X11_fitsGrowth_1_q1 {NF : Nat} {p1 : Int32} {p2 : Int32} {v : Nat → Int32} {f : Nat → Nat → Int32} {n1 : Nat} {l3_1 : Int32} {l4_1 : Int32} (h0 : ¬ ((v 38) ≤ l4_1)) (h1 : (l3_1 = 0)) : gsY_X11_fitsGrowth_1_L1 NF p1 p2 v f (n1 + 1) l3_1 l4_1 = l3_1 := by
  simp only [gsY_X11_fitsGrowth_1_L1, if_neg h0, if_pos h1]
theorem gsY_X11_fitsGrowth_1_q2 {NF : Nat} {p1 : Int32} {p2 : Int32} {v : Nat → Int32} {f : Nat → Nat → Int32} {n1 : Nat} {l3_1 : Int32} {l4_1 : Int32} {t10 : Int32} {t14 : Int32} (h0 : ¬ ((v 38) ≤ l4_1)) (h1 : ¬ (l3_1 = 0)) (h2 : t10 = f 31 (l4_1).toNatClampNeg) (h3 : (p2 < t10)) (h4 : t14 = l4_1 + 1) : gsY_X11_fitsGrowth_1_L1 NF p1 p2 v f (n1 + 1) l3_1 l4_1 = gsY_X11_fitsGrowth_1_L1 NF p1 p2 v f n1 l3_1 t14 := by
  subst h2 h4
  simp only [gsY_X11_fitsGrowth_1_L1, if_neg h0, if_neg h1, if_pos h3]
theorem gsY_X11_fitsGrowth_1_q3 {NF : Nat} {p1 : Int32} {p2 : Int32} {v : Nat → Int32} {f : Nat → Nat → Int32} {n1 : Nat} {l3_1 : Int32} {l4_1 : Int32} {t10 : Int32} {t19 : Int32} {t21 : Int32} {t23 : Int32} {t24 : Int32} {t27 : Int32} {t28 : Int32} {t32 : Int32} (h0 : ¬ ((v 38) ≤ l4_1)) (h1 : ¬ (l3_1 = 0)) (h2 : t10 = f 31 (l4_1).toNatClampNeg) (h3 : ¬ (p2 < t10)) (h4 : t19 = f 32 (l4_1).toNatClampNeg) (h5 : (t19 < 0)) (h6 : t21 = 21 * p1) (h7 : t23 = f 30 (l4_1).toNatClampNeg) (h8 : t24 = t21 + t23) (h9 : t27 = f 34 (t24).toNatClampNeg) (h10 : t28 = f 33 (l4_1).toNatClampNeg) (h11 : ¬ (t27 = t28)) (h12 : t32 = l4_1 + 1) : gsY_X11_fitsGrowth_1_L1 NF p1 p2 v f (n1 + 1) l3_1 l4_1 = gsY_X11_fitsGrowth_1_L1 NF p1 p2 v f n1 0 t32 := by
  subst h2 h4 h6 h7 h8 h9 h10 h12
  simp only [gsY_X11_fitsGrowth_1_L1, if_neg h0, if_neg h1, if_neg h3, if_pos h5, if_neg h11]
theorem gsY_X11_fitsGrowth_1_q4 {NF : Nat} {p1 : Int32} {p2 : Int32} {v : Nat → Int32} {f : Nat → Nat → Int32} {n1 : Nat} {l3_1 : Int32} {l4_1 : Int32} {t10 : Int32} {t19 : Int32} {t21 : Int32} {t23 : Int32} {t24 : Int32} {t27 : Int32} {t28 : Int32} {t36 : Int32} (h0 : ¬ ((v 38) ≤ l4_1)) (h1 : ¬ (l3_1 = 0)) (h2 : t10 = f 31 (l4_1).toNatClampNeg) (h3 : ¬ (p2 < t10)) (h4 : t19 = f 32 (l4_1).toNatClampNeg) (h5 : (t19 < 0)) (h6 : t21 = 21 * p1) (h7 : t23 = f 30 (l4_1).toNatClampNeg) (h8 : t24 = t21 + t23) (h9 : t27 = f 34 (t24).toNatClampNeg) (h10 : t28 = f 33 (l4_1).toNatClampNeg) (h11 : (t27 = t28)) (h12 : t36 = l4_1 + 1) : gsY_X11_fitsGrowth_1_L1 NF p1 p2 v f (n1 + 1) l3_1 l4_1 = gsY_X11_fitsGrowth_1_L1 NF p1 p2 v f n1 1 t36 := by
  subst h2 h4 h6 h7 h8 h9 h10 h12
  simp only [gsY_X11_fitsGrowth_1_L1, if_neg h0, if_neg h1, if_neg h3, if_pos h5, if_pos h11]
theorem gsY_X11_fitsGrowth_1_q5 {NF : Nat} {p1 : Int32} {p2 : Int32} {v : Nat → Int32} {f : Nat → Nat → Int32} {n1 : Nat} {l3_1 : Int32} {l4_1 : Int32} {t10 : Int32} {t19 : Int32} {t40 : Int32} {t42 : Int32} {t43 : Int32} {t46 : Int32} {t47 : Int32} {t51 : Int32} (h0 : ¬ ((v 38) ≤ l4_1)) (h1 : ¬ (l3_1 = 0)) (h2 : t10 = f 31 (l4_1).toNatClampNeg) (h3 : ¬ (p2 < t10)) (h4 : t19 = f 32 (l4_1).toNatClampNeg) (h5 : ¬ (t19 < 0)) (h6 : (p2 < t19)) (h7 : t40 = 21 * p1) (h8 : t42 = f 30 (l4_1).toNatClampNeg) (h9 : t43 = t40 + t42) (h10 : t46 = f 34 (t43).toNatClampNeg) (h11 : t47 = f 33 (l4_1).toNatClampNeg) (h12 : ¬ (t46 = t47)) (h13 : t51 = l4_1 + 1) : gsY_X11_fitsGrowth_1_L1 NF p1 p2 v f (n1 + 1) l3_1 l4_1 = gsY_X11_fitsGrowth_1_L1 NF p1 p2 v f n1 0 t51 := by
  subst h2 h4 h7 h8 h9 h10 h11 h13
  simp only [gsY_X11_fitsGrowth_1_L1, if_neg h0, if_neg h1, if_neg h3, if_neg h5, if_pos h6, if_neg h12]
theorem gsY_X11_fitsGrowth_1_q6 {NF : Nat} {p1 : Int32} {p2 : Int32} {v : Nat → Int32} {f : Nat → Nat → Int32} {n1 : Nat} {l3_1 : Int32} {l4_1 : Int32} {t10 : Int32} {t19 : Int32} {t40 : Int32} {t42 : Int32} {t43 : Int32} {t46 : Int32} {t47 : Int32} {t55 : Int32} (h0 : ¬ ((v 38) ≤ l4_1)) (h1 : ¬ (l3_1 = 0)) (h2 : t10 = f 31 (l4_1).toNatClampNeg) (h3 : ¬ (p2 < t10)) (h4 : t19 = f 32 (l4_1).toNatClampNeg) (h5 : ¬ (t19 < 0)) (h6 : (p2 < t19)) (h7 : t40 = 21 * p1) (h8 : t42 = f 30 (l4_1).toNatClampNeg) (h9 : t43 = t40 + t42) (h10 : t46 = f 34 (t43).toNatClampNeg) (h11 : t47 = f 33 (l4_1).toNatClampNeg) (h12 : (t46 = t47)) (h13 : t55 = l4_1 + 1) : gsY_X11_fitsGrowth_1_L1 NF p1 p2 v f (n1 + 1) l3_1 l4_1 = gsY_X11_fitsGrowth_1_L1 NF p1 p2 v f n1 1 t55 := by
  subst h2 h4 h7 h8 h9 h10 h11 h13
  simp only [gsY_X11_fitsGrowth_1_L1, if_neg h0, if_neg h1, if_neg h3, if_neg h5, if_pos h6, if_pos h12]
theorem gsY_X11_fitsGrowth_1_q7 {NF : Nat} {p1 : Int32} {p2 : Int32} {v : Nat → Int32} {f : Nat → Nat → Int32} {n1 : Nat} {l3_1 : Int32} {l4_1 : Int32} {t10 : Int32} {t19 : Int32} {t58 : Int32} (h0 : ¬ ((v 38) ≤ l4_1)) (h1 : ¬ (l3_1 = 0)) (h2 : t10 = f 31 (l4_1).toNatClampNeg) (h3 : ¬ (p2 < t10)) (h4 : t19 = f 32 (l4_1).toNatClampNeg) (h5 : ¬ (t19 < 0)) (h6 : ¬ (p2 < t19)) (h7 : t58 = l4_1 + 1) : gsY_X11_fitsGrowth_1_L1 NF p1 p2 v f (n1 + 1) l3_1 l4_1 = gsY_X11_fitsGrowth_1_L1 NF p1 p2 v f n1 l3_1 t58 := by
  subst h2 h4 h7
  simp only [gsY_X11_fitsGrowth_1_L1, if_neg h0, if_neg h1, if_neg h3, if_neg h5, if_neg h6]
def gsY_X11_fits_1 (NF : Nat) (p1 : Int32) (p2 : Int32) (v : Nat → Int32) (f : Nat → Nat → Int32) (w : Int64) (g : Nat → Int64) : Int32 × (Nat → Int32) × (Nat → Nat → Int32) × (Int64) × (Nat → Int64) :=
  if p2 < 0 then
    (0, v, f, w, g)
  else
    match gsY_X11_misfitOf_1 NF p1 p2 v f w g with
    | (r2, v4, f5, w6, g7) =>
      if (v4 26) < r2 then
        (0, v4, f5, w6, g7)
      else
        (1, v4, f5, w6, g7)
theorem gsY_X11_fits_1_q0 {NF : Nat} {p1 : Int32} {p2 : Int32} {v : Nat → Int32} {f : Nat → Nat → Int32} {w : Int64} {g : Nat → Int64} (h0 : (p2 < 0)) : gsY_X11_fits_1 NF p1 p2 v f w g = (0, v, f, w, g) := by
  simp only [gsY_X11_fits_1, if_pos h0]
theorem gsY_X11_fits_1_q1 {NF : Nat} {p1 : Int32} {p2 : Int32} {v : Nat → Int32} {f : Nat → Nat → Int32} {w : Int64} {g : Nat → Int64} {r2 : Int32} {v4 : Nat → Int32} {f5 : Nat → Nat → Int32} {w6 : Int64} {g7 : Nat → Int64} (h0 : ¬ (p2 < 0)) (h1 : gsY_X11_misfitOf_1 NF p1 p2 v f w g = (r2, v4, f5, w6, g7)) (h2 : ((v4 26) < r2)) : gsY_X11_fits_1 NF p1 p2 v f w g = (0, v4, f5, w6, g7) := by
  simp only [gsY_X11_fits_1, if_neg h0, h1, if_pos h2]
theorem gsY_X11_fits_1_q2 {NF : Nat} {p1 : Int32} {p2 : Int32} {v : Nat → Int32} {f : Nat → Nat → Int32} {w : Int64} {g : Nat → Int64} {r2 : Int32} {v4 : Nat → Int32} {f5 : Nat → Nat → Int32} {w6 : Int64} {g7 : Nat → Int64} (h0 : ¬ (p2 < 0)) (h1 : gsY_X11_misfitOf_1 NF p1 p2 v f w g = (r2, v4, f5, w6, g7)) (h2 : ¬ ((v4 26) < r2)) : gsY_X11_fits_1 NF p1 p2 v f w g = (1, v4, f5, w6, g7) := by
  simp only [gsY_X11_fits_1, if_neg h0, h1, if_neg h2]
def gsY_X11_lesser_1 (NF : Nat) (p0 : Int32) (p1 : Int32) (v : Nat → Int32) (f : Nat → Nat → Int32) (w : Int64) (g : Nat → Int64) : Int32 :=
  if p1 ≤ p0 then
    p1
  else
    p0
theorem gsY_X11_lesser_1_q0 {NF : Nat} {p0 : Int32} {p1 : Int32} {v : Nat → Int32} {f : Nat → Nat → Int32} {w : Int64} {g : Nat → Int64} (h0 : (p1 ≤ p0)) : gsY_X11_lesser_1 NF p0 p1 v f w g = p1 := by
  simp only [gsY_X11_lesser_1, if_pos h0]
theorem gsY_X11_lesser_1_q1 {NF : Nat} {p0 : Int32} {p1 : Int32} {v : Nat → Int32} {f : Nat → Nat → Int32} {w : Int64} {g : Nat → Int64} (h0 : ¬ (p1 ≤ p0)) : gsY_X11_lesser_1 NF p0 p1 v f w g = p0 := by
  simp only [gsY_X11_lesser_1, if_neg h0]
def gsY_X11_layGrowths_1_L10 (NF : Nat) (p1 : Int32) (l2_1 : Int32) (l3_1 : Int32) (k1 : Int32 → Int32 → (Nat → Int32) → (Nat → Nat → Int32) → Int64 → (Nat → Int64) → (Int32 × (Nat → Int32) × (Nat → Nat → Int32) × (Int64) × (Nat → Int64))) : Nat → (Int32) → (Nat → Int32) → (Nat → Nat → Int32) → (Int64) → (Nat → Int64) → Int32 × (Nat → Int32) × (Nat → Nat → Int32) × (Int64) × (Nat → Int64)
  | 0, _, _, _, _, _ => (0, (fun _ => 0), (fun _ _ => 0), 0, (fun _ => 0))
  | n10 + 1, l4_10, v10, f10, w10, g10 =>
    if 20 < l4_10 then
      if gsY_X11_fitsGrowth_1 NF l3_1 p1 v10 f10 w10 g10 = 1 then
        let f15 : Nat → Nat → Int32 := upd2 f10 35 (upd (f10 35) l3_1.toNatClampNeg (vp_nar .boolean 1))
        let t16 : Int32 := f15 35 (l3_1).toNatClampNeg
        let r17 : Int32 := gsY_X11_truth_1 NF t16 v10 f15 w10 g10
        let t19 : Int32 := l2_1 + r17
        let t20 : Int32 := l3_1 + 1
        k1 t19 t20 v10 f15 w10 g10
      else
        let f23 : Nat → Nat → Int32 := upd2 f10 35 (upd (f10 35) l3_1.toNatClampNeg (vp_nar .boolean 0))
        let t24 : Int32 := f23 35 (l3_1).toNatClampNeg
        let r25 : Int32 := gsY_X11_truth_1 NF t24 v10 f23 w10 g10
        let t27 : Int32 := l2_1 + r25
        let t28 : Int32 := l3_1 + 1
        k1 t27 t28 v10 f23 w10 g10
    else
      let t31 : Int32 := 21 * l3_1
      let t33 : Int32 := t31 + l4_10
      match gsY_X11_fits_1 NF 0 0 v10 f10 w10 g10 with
      | (r36, v38, f39, w40, g41) =>
        if r36 = 1 then
          let f43 : Nat → Nat → Int32 := upd2 f39 34 (upd (f39 34) t33.toNatClampNeg (vp_nar .boolean 1))
          let t44 : Int32 := f43 24 (0 : Int32).toNatClampNeg
          let t45 : Int32 := t44 + l3_1
          let r47 : Int32 := gsY_X11_lesser_1 NF 99 t45 v38 f43 w40 g41
          let f51 : Nat → Nat → Int32 := upd2 f43 24 (upd (f43 24) (0 : Int32).toNatClampNeg r47)
          let t52 : Int32 := f51 24 (30 : Int32).toNatClampNeg
          let t53 : Int32 := t52 + 1
          let r54 : Int32 := gsY_X11_lesser_1 NF 99 t53 v38 f51 w40 g41
          let f58 : Nat → Nat → Int32 := upd2 f51 24 (upd (f51 24) (30 : Int32).toNatClampNeg r54)
          let t59 : Int32 := f58 24 (37 : Int32).toNatClampNeg
          let t60 : Int32 := t59 + 1
          let f61 : Nat → Nat → Int32 := upd2 f58 24 (upd (f58 24) (37 : Int32).toNatClampNeg t60)
          let t62 : Int32 := l4_10 + 1
          gsY_X11_layGrowths_1_L10 NF p1 l2_1 l3_1 k1 n10 t62 v38 f61 w40 g41
        else
          let f64 : Nat → Nat → Int32 := upd2 f39 34 (upd (f39 34) t33.toNatClampNeg (vp_nar .boolean 0))
          let t65 : Int32 := f64 24 (0 : Int32).toNatClampNeg
          let t66 : Int32 := t65 + l3_1
          let r68 : Int32 := gsY_X11_lesser_1 NF 99 t66 v38 f64 w40 g41
          let f72 : Nat → Nat → Int32 := upd2 f64 24 (upd (f64 24) (0 : Int32).toNatClampNeg r68)
          let t73 : Int32 := f72 24 (30 : Int32).toNatClampNeg
          let t74 : Int32 := t73 + 1
          let r75 : Int32 := gsY_X11_lesser_1 NF 99 t74 v38 f72 w40 g41
          let f79 : Nat → Nat → Int32 := upd2 f72 24 (upd (f72 24) (30 : Int32).toNatClampNeg r75)
          let t80 : Int32 := f79 24 (37 : Int32).toNatClampNeg
          let t81 : Int32 := t80 + 1
          let f82 : Nat → Nat → Int32 := upd2 f79 24 (upd (f79 24) (37 : Int32).toNatClampNeg t81)
          let t83 : Int32 := l4_10 + 1
          gsY_X11_layGrowths_1_L10 NF p1 l2_1 l3_1 k1 n10 t83 v38 f82 w40 g41
def gsY_X11_layGrowths_1_L1 (NF : Nat) (p1 : Int32) (v : Nat → Int32) : Nat → (Int32) → (Int32) → (Nat → Int32) → (Nat → Nat → Int32) → (Int64) → (Nat → Int64) → Int32 × (Nat → Int32) × (Nat → Nat → Int32) × (Int64) × (Nat → Int64)
  | 0, _, _, _, _, _, _ => (0, (fun _ => 0), (fun _ _ => 0), 0, (fun _ => 0))
  | n1 + 1, l2_1, l3_1, v1, f1, w1, g1 =>
    if 30 < l3_1 then
      (l2_1, v1, f1, w1, g1)
    else
      if (v 24) ≤ 0 then
        (l2_1, v1, f1, w1, g1)
      else
        if (v 25) ≤ 0 then
          (l2_1, v1, f1, w1, g1)
        else
          match gsY_X11_begin_1 NF v1 f1 w1 g1 with
          | (v6, f7, w8, g9) =>
            gsY_X11_layGrowths_1_L10 NF p1 l2_1 l3_1 (fun z0 z1 z2 z3 z4 z5 => gsY_X11_layGrowths_1_L1 NF p1 v n1 z0 z1 z2 z3 z4 z5) (4294967296 + NF) 0 v6 f7 w8 g9
def gsY_X11_layGrowths_1 (NF : Nat) (p1 : Int32) (v : Nat → Int32) (f : Nat → Nat → Int32) (w : Int64) (g : Nat → Int64) : Int32 × (Nat → Int32) × (Nat → Nat → Int32) × (Int64) × (Nat → Int64) :=
  gsY_X11_layGrowths_1_L1 NF p1 v (4294967296 + NF) 0 0 v f w g
theorem gsY_X11_layGrowths_1_q8 {NF : Nat} {p1 : Int32} {v : Nat → Int32} {f : Nat → Nat → Int32} {w : Int64} {g : Nat → Int64}  : gsY_X11_layGrowths_1 NF p1 v f w g = gsY_X11_layGrowths_1_L1 NF p1 v (4294967296 + NF) 0 0 v f w g := by
  simp only [gsY_X11_layGrowths_1]
theorem gsY_X11_layGrowths_1_q0 {NF : Nat} {p1 : Int32} {v : Nat → Int32} {n1 : Nat} {l2_1 : Int32} {l3_1 : Int32} {v1 : Nat → Int32} {f1 : Nat → Nat → Int32} {w1 : Int64} {g1 : Nat → Int64} (h0 : (30 < l3_1)) : gsY_X11_layGrowths_1_L1 NF p1 v (n1 + 1) l2_1 l3_1 v1 f1 w1 g1 = (l2_1, v1, f1, w1, g1) := by
  simp only [gsY_X11_layGrowths_1_L1, if_pos h0]
theorem gsY_X11_layGrowths_1_q1 {NF : Nat} {p1 : Int32} {v : Nat → Int32} {n1 : Nat} {l2_1 : Int32} {l3_1 : Int32} {v1 : Nat → Int32} {f1 : Nat → Nat → Int32} {w1 : Int64} {g1 : Nat → Int64} (h0 : ¬ (30 < l3_1)) (h1 : ((v 24) ≤ 0)) : gsY_X11_layGrowths_1_L1 NF p1 v (n1 + 1) l2_1 l3_1 v1 f1 w1 g1 = (l2_1, v1, f1, w1, g1) := by
  simp only [gsY_X11_layGrowths_1_L1, if_neg h0, if_pos h1]
theorem gsY_X11_layGrowths_1_q2 {NF : Nat} {p1 : Int32} {v : Nat → Int32} {n1 : Nat} {l2_1 : Int32} {l3_1 : Int32} {v1 : Nat → Int32} {f1 : Nat → Nat → Int32} {w1 : Int64} {g1 : Nat → Int64} (h0 : ¬ (30 < l3_1)) (h1 : ¬ ((v 24) ≤ 0)) (h2 : ((v 25) ≤ 0)) : gsY_X11_layGrowths_1_L1 NF p1 v (n1 + 1) l2_1 l3_1 v1 f1 w1 g1 = (l2_1, v1, f1, w1, g1) := by
  simp only [gsY_X11_layGrowths_1_L1, if_neg h0, if_neg h1, if_pos h2]
theorem gsY_X11_layGrowths_1_q7 {NF : Nat} {p1 : Int32} {v : Nat → Int32} {n1 : Nat} {l2_1 : Int32} {l3_1 : Int32} {v1 : Nat → Int32} {f1 : Nat → Nat → Int32} {w1 : Int64} {g1 : Nat → Int64} {v6 : Nat → Int32} {f7 : Nat → Nat → Int32} {w8 : Int64} {g9 : Nat → Int64} (h0 : ¬ (30 < l3_1)) (h1 : ¬ ((v 24) ≤ 0)) (h2 : ¬ ((v 25) ≤ 0)) (h3 : gsY_X11_begin_1 NF v1 f1 w1 g1 = (v6, f7, w8, g9)) : gsY_X11_layGrowths_1_L1 NF p1 v (n1 + 1) l2_1 l3_1 v1 f1 w1 g1 = gsY_X11_layGrowths_1_L10 NF p1 l2_1 l3_1 (fun z0 z1 z2 z3 z4 z5 => gsY_X11_layGrowths_1_L1 NF p1 v n1 z0 z1 z2 z3 z4 z5) (4294967296 + NF) 0 v6 f7 w8 g9 := by
  simp only [gsY_X11_layGrowths_1_L1, if_neg h0, if_neg h1, if_neg h2, h3]
theorem gsY_X11_layGrowths_1_q3 {NF : Nat} {p1 : Int32} {l2_1 : Int32} {l3_1 : Int32} {n10 : Nat} {l4_10 : Int32} {v10 : Nat → Int32} {f10 : Nat → Nat → Int32} {w10 : Int64} {g10 : Nat → Int64} {f15 : Nat → Nat → Int32} {t16 : Int32} {r17 : Int32} {t19 : Int32} {t20 : Int32} {k1 : Int32 → Int32 → (Nat → Int32) → (Nat → Nat → Int32) → Int64 → (Nat → Int64) → (Int32 × (Nat → Int32) × (Nat → Nat → Int32) × (Int64) × (Nat → Int64))} (h0 : (20 < l4_10)) (h1 : gsY_X11_fitsGrowth_1 NF l3_1 p1 v10 f10 w10 g10 = 1) (h2 : f15 = upd2 f10 35 (upd (f10 35) l3_1.toNatClampNeg (vp_nar .boolean 1))) (h3 : t16 = f15 35 (l3_1).toNatClampNeg) (h4 : r17 = gsY_X11_truth_1 NF t16 v10 f15 w10 g10) (h5 : t19 = l2_1 + r17) (h6 : t20 = l3_1 + 1) : gsY_X11_layGrowths_1_L10 NF p1 l2_1 l3_1 k1 (n10 + 1) l4_10 v10 f10 w10 g10 = k1 t19 t20 v10 f15 w10 g10 := by
  subst h2 h3 h4 h5 h6
  simp only [gsY_X11_layGrowths_1_L10, if_pos h0, h1, ite11, ite01, if_true, if_false]
theorem gsY_X11_layGrowths_1_q4 {NF : Nat} {p1 : Int32} {l2_1 : Int32} {l3_1 : Int32} {n10 : Nat} {l4_10 : Int32} {v10 : Nat → Int32} {f10 : Nat → Nat → Int32} {w10 : Int64} {g10 : Nat → Int64} {f23 : Nat → Nat → Int32} {t24 : Int32} {r25 : Int32} {t27 : Int32} {t28 : Int32} {k1 : Int32 → Int32 → (Nat → Int32) → (Nat → Nat → Int32) → Int64 → (Nat → Int64) → (Int32 × (Nat → Int32) × (Nat → Nat → Int32) × (Int64) × (Nat → Int64))} (h0 : (20 < l4_10)) (h1 : gsY_X11_fitsGrowth_1 NF l3_1 p1 v10 f10 w10 g10 = 0) (h2 : f23 = upd2 f10 35 (upd (f10 35) l3_1.toNatClampNeg (vp_nar .boolean 0))) (h3 : t24 = f23 35 (l3_1).toNatClampNeg) (h4 : r25 = gsY_X11_truth_1 NF t24 v10 f23 w10 g10) (h5 : t27 = l2_1 + r25) (h6 : t28 = l3_1 + 1) : gsY_X11_layGrowths_1_L10 NF p1 l2_1 l3_1 k1 (n10 + 1) l4_10 v10 f10 w10 g10 = k1 t27 t28 v10 f23 w10 g10 := by
  subst h2 h3 h4 h5 h6
  simp only [gsY_X11_layGrowths_1_L10, if_pos h0, h1, ite11, ite01, if_true, if_false]
theorem gsY_X11_layGrowths_1_q5 {NF : Nat} {p1 : Int32} {l2_1 : Int32} {l3_1 : Int32} {n10 : Nat} {l4_10 : Int32} {v10 : Nat → Int32} {f10 : Nat → Nat → Int32} {w10 : Int64} {g10 : Nat → Int64} {t31 : Int32} {t33 : Int32} {v38 : Nat → Int32} {f39 : Nat → Nat → Int32} {w40 : Int64} {g41 : Nat → Int64} {f43 : Nat → Nat → Int32} {t44 : Int32} {t45 : Int32} {r47 : Int32} {f51 : Nat → Nat → Int32} {t52 : Int32} {t53 : Int32} {r54 : Int32} {f58 : Nat → Nat → Int32} {t59 : Int32} {t60 : Int32} {f61 : Nat → Nat → Int32} {t62 : Int32} {k1 : Int32 → Int32 → (Nat → Int32) → (Nat → Nat → Int32) → Int64 → (Nat → Int64) → (Int32 × (Nat → Int32) × (Nat → Nat → Int32) × (Int64) × (Nat → Int64))} (h0 : ¬ (20 < l4_10)) (h1 : t31 = 21 * l3_1) (h2 : t33 = t31 + l4_10) (h3 : gsY_X11_fits_1 NF 0 0 v10 f10 w10 g10 = (1, v38, f39, w40, g41)) (h5 : f43 = upd2 f39 34 (upd (f39 34) t33.toNatClampNeg (vp_nar .boolean 1))) (h6 : t44 = f43 24 (0 : Int32).toNatClampNeg) (h7 : t45 = t44 + l3_1) (h8 : r47 = gsY_X11_lesser_1 NF 99 t45 v38 f43 w40 g41) (h9 : f51 = upd2 f43 24 (upd (f43 24) (0 : Int32).toNatClampNeg r47)) (h10 : t52 = f51 24 (30 : Int32).toNatClampNeg) (h11 : t53 = t52 + 1) (h12 : r54 = gsY_X11_lesser_1 NF 99 t53 v38 f51 w40 g41) (h13 : f58 = upd2 f51 24 (upd (f51 24) (30 : Int32).toNatClampNeg r54)) (h14 : t59 = f58 24 (37 : Int32).toNatClampNeg) (h15 : t60 = t59 + 1) (h16 : f61 = upd2 f58 24 (upd (f58 24) (37 : Int32).toNatClampNeg t60)) (h17 : t62 = l4_10 + 1) : gsY_X11_layGrowths_1_L10 NF p1 l2_1 l3_1 k1 (n10 + 1) l4_10 v10 f10 w10 g10 = gsY_X11_layGrowths_1_L10 NF p1 l2_1 l3_1 k1 n10 t62 v38 f61 w40 g41 := by
  subst h1 h2 h5 h6 h7 h8 h9 h10 h11 h12 h13 h14 h15 h16 h17
  simp only [gsY_X11_layGrowths_1_L10, if_neg h0, h3, ite11, ite01, if_true, if_false]
theorem gsY_X11_layGrowths_1_q6 {NF : Nat} {p1 : Int32} {l2_1 : Int32} {l3_1 : Int32} {n10 : Nat} {l4_10 : Int32} {v10 : Nat → Int32} {f10 : Nat → Nat → Int32} {w10 : Int64} {g10 : Nat → Int64} {t31 : Int32} {t33 : Int32} {v38 : Nat → Int32} {f39 : Nat → Nat → Int32} {w40 : Int64} {g41 : Nat → Int64} {f64 : Nat → Nat → Int32} {t65 : Int32} {t66 : Int32} {r68 : Int32} {f72 : Nat → Nat → Int32} {t73 : Int32} {t74 : Int32} {r75 : Int32} {f79 : Nat → Nat → Int32} {t80 : Int32} {t81 : Int32} {f82 : Nat → Nat → Int32} {t83 : Int32} {k1 : Int32 → Int32 → (Nat → Int32) → (Nat → Nat → Int32) → Int64 → (Nat → Int64) → (Int32 × (Nat → Int32) × (Nat → Nat → Int32) × (Int64) × (Nat → Int64))} (h0 : ¬ (20 < l4_10)) (h1 : t31 = 21 * l3_1) (h2 : t33 = t31 + l4_10) (h3 : gsY_X11_fits_1 NF 0 0 v10 f10 w10 g10 = (0, v38, f39, w40, g41)) (h5 : f64 = upd2 f39 34 (upd (f39 34) t33.toNatClampNeg (vp_nar .boolean 0))) (h6 : t65 = f64 24 (0 : Int32).toNatClampNeg) (h7 : t66 = t65 + l3_1) (h8 : r68 = gsY_X11_lesser_1 NF 99 t66 v38 f64 w40 g41) (h9 : f72 = upd2 f64 24 (upd (f64 24) (0 : Int32).toNatClampNeg r68)) (h10 : t73 = f72 24 (30 : Int32).toNatClampNeg) (h11 : t74 = t73 + 1) (h12 : r75 = gsY_X11_lesser_1 NF 99 t74 v38 f72 w40 g41) (h13 : f79 = upd2 f72 24 (upd (f72 24) (30 : Int32).toNatClampNeg r75)) (h14 : t80 = f79 24 (37 : Int32).toNatClampNeg) (h15 : t81 = t80 + 1) (h16 : f82 = upd2 f79 24 (upd (f79 24) (37 : Int32).toNatClampNeg t81)) (h17 : t83 = l4_10 + 1) : gsY_X11_layGrowths_1_L10 NF p1 l2_1 l3_1 k1 (n10 + 1) l4_10 v10 f10 w10 g10 = gsY_X11_layGrowths_1_L10 NF p1 l2_1 l3_1 k1 n10 t83 v38 f82 w40 g41 := by
  subst h1 h2 h5 h6 h7 h8 h9 h10 h11 h12 h13 h14 h15 h16 h17
  simp only [gsY_X11_layGrowths_1_L10, if_neg h0, h3, ite11, ite01, if_true, if_false]
def gsY_X11_growths_1 (NF : Nat) (p1 : Int32) (v : Nat → Int32) (f : Nat → Nat → Int32) (w : Int64) (g : Nat → Int64) : Int32 × (Nat → Int32) × (Nat → Nat → Int32) × (Int64) × (Nat → Int64) :=
  match gsY_X11_layGrowths_1 NF p1 v f w g with
  | (r1, v3, f4, w5, g6) =>
    (r1, v3, f4, w5, g6)
theorem gsY_X11_growths_1_q0 {NF : Nat} {p1 : Int32} {v : Nat → Int32} {f : Nat → Nat → Int32} {w : Int64} {g : Nat → Int64} {r1 : Int32} {v3 : Nat → Int32} {f4 : Nat → Nat → Int32} {w5 : Int64} {g6 : Nat → Int64} (h0 : gsY_X11_layGrowths_1 NF p1 v f w g = (r1, v3, f4, w5, g6)) : gsY_X11_growths_1 NF p1 v f w g = (r1, v3, f4, w5, g6) := by
  simp only [gsY_X11_growths_1, h0]
def gsY_X11_sure_1_L13 (NF : Nat) (p1 : Int32) (v8 : Nat → Int32) (f9 : Nat → Nat → Int32) (w10 : Int64) (g11 : Nat → Int64) : Nat → (Int32) → (Int32) → Int32 × (Nat → Int32) × (Nat → Nat → Int32) × (Int64) × (Nat → Int64)
  | 0, _, _ => (0, (fun _ => 0), (fun _ _ => 0), 0, (fun _ => 0))
  | n13 + 1, l3_13, l4_13 =>
    if 30 < l4_13 then
      (l3_13, v8, f9, w10, g11)
    else
      let t15 : Int32 := f9 35 (l4_13).toNatClampNeg
      if t15 = 0 then
        let t17 : Int32 := l4_13 + 1
        gsY_X11_sure_1_L13 NF p1 v8 f9 w10 g11 n13 l3_13 t17
      else
        if l3_13 < 0 then
          let t21 : Int32 := l4_13 + 1
          gsY_X11_sure_1_L13 NF p1 v8 f9 w10 g11 n13 l4_13 t21
        else
          if p1 = 1 then
            let t28 : Int32 := l4_13 + 1
            gsY_X11_sure_1_L13 NF p1 v8 f9 w10 g11 n13 l4_13 t28
          else
            let t25 : Int32 := l4_13 + 1
            gsY_X11_sure_1_L13 NF p1 v8 f9 w10 g11 n13 l3_13 t25
def gsY_X11_sure_1 (NF : Nat) (p1 : Int32) (p2 : Int32) (v : Nat → Int32) (f : Nat → Nat → Int32) (w : Int64) (g : Nat → Int64) : Int32 × (Nat → Int32) × (Nat → Nat → Int32) × (Int64) × (Nat → Int64) :=
  if gsY_X11_isIn_1 NF p1 0 1 v f w g = 1 then
    match gsY_X11_layGrowths_1 NF p2 v f w g with
    | (r6, v8, f9, w10, g11) =>
      if r6 = 0 then
        ((-1), v8, f9, w10, g11)
      else
        gsY_X11_sure_1_L13 NF p1 v8 f9 w10 g11 (4294967296 + NF) (-1) 0
  else
    ((-1), v, f, w, g)
theorem gsY_X11_sure_1_q5 {NF : Nat} {p1 : Int32} {p2 : Int32} {v : Nat → Int32} {f : Nat → Nat → Int32} {w : Int64} {g : Nat → Int64} {r6 : Int32} {v8 : Nat → Int32} {f9 : Nat → Nat → Int32} {w10 : Int64} {g11 : Nat → Int64} (h0 : gsY_X11_isIn_1 NF p1 0 1 v f w g = 1) (h1 : gsY_X11_layGrowths_1 NF p2 v f w g = (r6, v8, f9, w10, g11)) (h2 : ¬ (r6 = 0)) : gsY_X11_sure_1 NF p1 p2 v f w g = gsY_X11_sure_1_L13 NF p1 v8 f9 w10 g11 (4294967296 + NF) (-1) 0 := by
  simp only [gsY_X11_sure_1, h0, h1, if_neg h2, ite11, ite01, if_true, if_false]
theorem gsY_X11_sure_1_q6 {NF : Nat} {p1 : Int32} {p2 : Int32} {v : Nat → Int32} {f : Nat → Nat → Int32} {w : Int64} {g : Nat → Int64} {r6 : Int32} {v8 : Nat → Int32} {f9 : Nat → Nat → Int32} {w10 : Int64} {g11 : Nat → Int64} (h0 : gsY_X11_isIn_1 NF p1 0 1 v f w g = 1) (h1 : gsY_X11_layGrowths_1 NF p2 v f w g = (r6, v8, f9, w10, g11)) (h2 : (r6 = 0)) : gsY_X11_sure_1 NF p1 p2 v f w g = ((-1), v8, f9, w10, g11) := by
  simp only [gsY_X11_sure_1, h0, h1, if_pos h2, ite11, ite01, if_true, if_false]
theorem gsY_X11_sure_1_q7 {NF : Nat} {p1 : Int32} {p2 : Int32} {v : Nat → Int32} {f : Nat → Nat → Int32} {w : Int64} {g : Nat → Int64} (h0 : gsY_X11_isIn_1 NF p1 0 1 v f w g = 0) : gsY_X11_sure_1 NF p1 p2 v f w g = ((-1), v, f, w, g) := by
  simp only [gsY_X11_sure_1, h0, ite11, ite01, if_true, if_false]
theorem gsY_X11_sure_1_q0 {NF : Nat} {p1 : Int32} {v8 : Nat → Int32} {f9 : Nat → Nat → Int32} {w10 : Int64} {g11 : Nat → Int64} {n13 : Nat} {l3_13 : Int32} {l4_13 : Int32} (h0 : (30 < l4_13)) : gsY_X11_sure_1_L13 NF p1 v8 f9 w10 g11 (n13 + 1) l3_13 l4_13 = (l3_13, v8, f9, w10, g11) := by
  simp only [gsY_X11_sure_1_L13, if_pos h0]
theorem gsY_X11_sure_1_q1 {NF : Nat} {p1 : Int32} {v8 : Nat → Int32} {f9 : Nat → Nat → Int32} {w10 : Int64} {g11 : Nat → Int64} {n13 : Nat} {l3_13 : Int32} {l4_13 : Int32} {t15 : Int32} {t17 : Int32} (h0 : ¬ (30 < l4_13)) (h1 : t15 = f9 35 (l4_13).toNatClampNeg) (h2 : (t15 = 0)) (h3 : t17 = l4_13 + 1) : gsY_X11_sure_1_L13 NF p1 v8 f9 w10 g11 (n13 + 1) l3_13 l4_13 = gsY_X11_sure_1_L13 NF p1 v8 f9 w10 g11 n13 l3_13 t17 := by
  subst h1 h3
  simp only [gsY_X11_sure_1_L13, if_neg h0, if_pos h2]
theorem gsY_X11_sure_1_q2 {NF : Nat} {p1 : Int32} {v8 : Nat → Int32} {f9 : Nat → Nat → Int32} {w10 : Int64} {g11 : Nat → Int64} {n13 : Nat} {l3_13 : Int32} {l4_13 : Int32} {t15 : Int32} {t21 : Int32} (h0 : ¬ (30 < l4_13)) (h1 : t15 = f9 35 (l4_13).toNatClampNeg) (h2 : ¬ (t15 = 0)) (h3 : (l3_13 < 0)) (h4 : t21 = l4_13 + 1) : gsY_X11_sure_1_L13 NF p1 v8 f9 w10 g11 (n13 + 1) l3_13 l4_13 = gsY_X11_sure_1_L13 NF p1 v8 f9 w10 g11 n13 l4_13 t21 := by
  subst h1 h4
  simp only [gsY_X11_sure_1_L13, if_neg h0, if_neg h2, if_pos h3]
theorem gsY_X11_sure_1_q3 {NF : Nat} {p1 : Int32} {v8 : Nat → Int32} {f9 : Nat → Nat → Int32} {w10 : Int64} {g11 : Nat → Int64} {n13 : Nat} {l3_13 : Int32} {l4_13 : Int32} {t15 : Int32} {t25 : Int32} (h0 : ¬ (30 < l4_13)) (h1 : t15 = f9 35 (l4_13).toNatClampNeg) (h2 : ¬ (t15 = 0)) (h3 : ¬ (l3_13 < 0)) (h4 : ¬ (p1 = 1)) (h5 : t25 = l4_13 + 1) : gsY_X11_sure_1_L13 NF p1 v8 f9 w10 g11 (n13 + 1) l3_13 l4_13 = gsY_X11_sure_1_L13 NF p1 v8 f9 w10 g11 n13 l3_13 t25 := by
  subst h1 h5
  simp only [gsY_X11_sure_1_L13, if_neg h0, if_neg h2, if_neg h3, if_neg h4]
theorem gsY_X11_sure_1_q4 {NF : Nat} {p1 : Int32} {v8 : Nat → Int32} {f9 : Nat → Nat → Int32} {w10 : Int64} {g11 : Nat → Int64} {n13 : Nat} {l3_13 : Int32} {l4_13 : Int32} {t15 : Int32} {t28 : Int32} (h0 : ¬ (30 < l4_13)) (h1 : t15 = f9 35 (l4_13).toNatClampNeg) (h2 : ¬ (t15 = 0)) (h3 : ¬ (l3_13 < 0)) (h4 : (p1 = 1)) (h5 : t28 = l4_13 + 1) : gsY_X11_sure_1_L13 NF p1 v8 f9 w10 g11 (n13 + 1) l3_13 l4_13 = gsY_X11_sure_1_L13 NF p1 v8 f9 w10 g11 n13 l4_13 t28 := by
  subst h1 h5
  simp only [gsY_X11_sure_1_L13, if_neg h0, if_neg h2, if_neg h3, if_pos h4]
def gsY_X11_greater_1 (NF : Nat) (p0 : Int32) (p1 : Int32) (v : Nat → Int32) (f : Nat → Nat → Int32) (w : Int64) (g : Nat → Int64) : Int32 :=
  if p0 ≤ p1 then
    p1
  else
    p0
theorem gsY_X11_greater_1_q0 {NF : Nat} {p0 : Int32} {p1 : Int32} {v : Nat → Int32} {f : Nat → Nat → Int32} {w : Int64} {g : Nat → Int64} (h0 : (p0 ≤ p1)) : gsY_X11_greater_1 NF p0 p1 v f w g = p1 := by
  simp only [gsY_X11_greater_1, if_pos h0]
theorem gsY_X11_greater_1_q1 {NF : Nat} {p0 : Int32} {p1 : Int32} {v : Nat → Int32} {f : Nat → Nat → Int32} {w : Int64} {g : Nat → Int64} (h0 : ¬ (p0 ≤ p1)) : gsY_X11_greater_1 NF p0 p1 v f w g = p0 := by
  simp only [gsY_X11_greater_1, if_neg h0]
def gsY_X11_leftBy_1_L1 (NF : Nat) (p1 : Int32) (p2 : Int32) (v : Nat → Int32) (f : Nat → Nat → Int32) (w : Int64) (g : Nat → Int64) : Nat → (Int32) → (Int32) → Int32
  | 0, _, _ => 0
  | n1 + 1, l3_1, l4_1 =>
    if 30 < l4_1 then
      let t3 : Int32 := p2 - l3_1
      let r4 : Int32 := gsY_X11_greater_1 NF l3_1 t3 v f w g
      r4
    else
      let t6 : Int32 := f 35 (l4_1).toNatClampNeg
      if t6 = 0 then
        let r9 : Int32 := gsY_X11_truth_1 NF 0 v f w g
        let t11 : Int32 := l3_1 + r9
        let t12 : Int32 := l4_1 + 1
        gsY_X11_leftBy_1_L1 NF p1 p2 v f w g n1 t11 t12
      else
        let t15 : Int32 := 21 * l4_1
        let t17 : Int32 := t15 + p1
        let t20 : Int32 := f 34 (t17).toNatClampNeg
        if t20 = 0 then
          let r23 : Int32 := gsY_X11_truth_1 NF 0 v f w g
          let t25 : Int32 := l3_1 + r23
          let t26 : Int32 := l4_1 + 1
          gsY_X11_leftBy_1_L1 NF p1 p2 v f w g n1 t25 t26
        else
          let r29 : Int32 := gsY_X11_truth_1 NF 1 v f w g
          let t31 : Int32 := l3_1 + r29
          let t32 : Int32 := l4_1 + 1
          gsY_X11_leftBy_1_L1 NF p1 p2 v f w g n1 t31 t32
def gsY_X11_leftBy_1 (NF : Nat) (p1 : Int32) (p2 : Int32) (v : Nat → Int32) (f : Nat → Nat → Int32) (w : Int64) (g : Nat → Int64) : Int32 :=
  gsY_X11_leftBy_1_L1 NF p1 p2 v f w g (4294967296 + NF) 0 0
theorem gsY_X11_leftBy_1_q4 {NF : Nat} {p1 : Int32} {p2 : Int32} {v : Nat → Int32} {f : Nat → Nat → Int32} {w : Int64} {g : Nat → Int64}  : gsY_X11_leftBy_1 NF p1 p2 v f w g = gsY_X11_leftBy_1_L1 NF p1 p2 v f w g (4294967296 + NF) 0 0 := by
  simp only [gsY_X11_leftBy_1]
theorem gsY_X11_leftBy_1_q0 {NF : Nat} {p1 : Int32} {p2 : Int32} {v : Nat → Int32} {f : Nat → Nat → Int32} {w : Int64} {g : Nat → Int64} {n1 : Nat} {l3_1 : Int32} {l4_1 : Int32} {t3 : Int32} {r4 : Int32} (h0 : (30 < l4_1)) (h1 : t3 = p2 - l3_1) (h2 : r4 = gsY_X11_greater_1 NF l3_1 t3 v f w g) : gsY_X11_leftBy_1_L1 NF p1 p2 v f w g (n1 + 1) l3_1 l4_1 = r4 := by
  subst h1 h2
  simp only [gsY_X11_leftBy_1_L1, if_pos h0]
theorem gsY_X11_leftBy_1_q1 {NF : Nat} {p1 : Int32} {p2 : Int32} {v : Nat → Int32} {f : Nat → Nat → Int32} {w : Int64} {g : Nat → Int64} {n1 : Nat} {l3_1 : Int32} {l4_1 : Int32} {t6 : Int32} {r9 : Int32} {t11 : Int32} {t12 : Int32} (h0 : ¬ (30 < l4_1)) (h1 : t6 = f 35 (l4_1).toNatClampNeg) (h2 : (t6 = 0)) (h3 : r9 = gsY_X11_truth_1 NF 0 v f w g) (h4 : t11 = l3_1 + r9) (h5 : t12 = l4_1 + 1) : gsY_X11_leftBy_1_L1 NF p1 p2 v f w g (n1 + 1) l3_1 l4_1 = gsY_X11_leftBy_1_L1 NF p1 p2 v f w g n1 t11 t12 := by
  subst h1 h3 h4 h5
  simp only [gsY_X11_leftBy_1_L1, if_neg h0, if_pos h2]
theorem gsY_X11_leftBy_1_q2 {NF : Nat} {p1 : Int32} {p2 : Int32} {v : Nat → Int32} {f : Nat → Nat → Int32} {w : Int64} {g : Nat → Int64} {n1 : Nat} {l3_1 : Int32} {l4_1 : Int32} {t6 : Int32} {t15 : Int32} {t17 : Int32} {t20 : Int32} {r23 : Int32} {t25 : Int32} {t26 : Int32} (h0 : ¬ (30 < l4_1)) (h1 : t6 = f 35 (l4_1).toNatClampNeg) (h2 : ¬ (t6 = 0)) (h3 : t15 = 21 * l4_1) (h4 : t17 = t15 + p1) (h5 : t20 = f 34 (t17).toNatClampNeg) (h6 : (t20 = 0)) (h7 : r23 = gsY_X11_truth_1 NF 0 v f w g) (h8 : t25 = l3_1 + r23) (h9 : t26 = l4_1 + 1) : gsY_X11_leftBy_1_L1 NF p1 p2 v f w g (n1 + 1) l3_1 l4_1 = gsY_X11_leftBy_1_L1 NF p1 p2 v f w g n1 t25 t26 := by
  subst h1 h3 h4 h5 h7 h8 h9
  simp only [gsY_X11_leftBy_1_L1, if_neg h0, if_neg h2, if_pos h6]
theorem gsY_X11_leftBy_1_q3 {NF : Nat} {p1 : Int32} {p2 : Int32} {v : Nat → Int32} {f : Nat → Nat → Int32} {w : Int64} {g : Nat → Int64} {n1 : Nat} {l3_1 : Int32} {l4_1 : Int32} {t6 : Int32} {t15 : Int32} {t17 : Int32} {t20 : Int32} {r29 : Int32} {t31 : Int32} {t32 : Int32} (h0 : ¬ (30 < l4_1)) (h1 : t6 = f 35 (l4_1).toNatClampNeg) (h2 : ¬ (t6 = 0)) (h3 : t15 = 21 * l4_1) (h4 : t17 = t15 + p1) (h5 : t20 = f 34 (t17).toNatClampNeg) (h6 : ¬ (t20 = 0)) (h7 : r29 = gsY_X11_truth_1 NF 1 v f w g) (h8 : t31 = l3_1 + r29) (h9 : t32 = l4_1 + 1) : gsY_X11_leftBy_1_L1 NF p1 p2 v f w g (n1 + 1) l3_1 l4_1 = gsY_X11_leftBy_1_L1 NF p1 p2 v f w g n1 t31 t32 := by
  subst h1 h3 h4 h5 h7 h8 h9
  simp only [gsY_X11_leftBy_1_L1, if_neg h0, if_neg h2, if_neg h6]
def gsY_X11_ask_1_L13 (NF : Nat) (p1 : Int32) (r6 : Int32) (v8 : Nat → Int32) (f9 : Nat → Nat → Int32) (w10 : Int64) (g11 : Nat → Int64) : Nat → (Int32) → (Int32) → Int32 × (Nat → Int32) × (Nat → Nat → Int32) × (Int64) × (Nat → Int64)
  | 0, _, _ => (0, (fun _ => 0), (fun _ _ => 0), 0, (fun _ => 0))
  | n13 + 1, l4_13, l5_13 =>
    if 20 < l5_13 then
      if p1 = 0 then
        (l4_13, v8, f9, w10, g11)
      else
        let r16 : Int32 := gsY_X11_leftBy_1 NF l4_13 r6 v8 f9 w10 g11
        (r16, v8, f9, w10, g11)
    else
      let r18 : Int32 := gsY_X11_leftBy_1 NF l5_13 r6 v8 f9 w10 g11
      let r20 : Int32 := gsY_X11_leftBy_1 NF l4_13 r6 v8 f9 w10 g11
      if r20 ≤ r18 then
        let t25 : Int32 := l5_13 + 1
        gsY_X11_ask_1_L13 NF p1 r6 v8 f9 w10 g11 n13 l4_13 t25
      else
        let t31 : Int32 := l5_13 + 1
        gsY_X11_ask_1_L13 NF p1 r6 v8 f9 w10 g11 n13 l5_13 t31
def gsY_X11_ask_1 (NF : Nat) (p1 : Int32) (p2 : Int32) (v : Nat → Int32) (f : Nat → Nat → Int32) (w : Int64) (g : Nat → Int64) : Int32 × (Nat → Int32) × (Nat → Nat → Int32) × (Int64) × (Nat → Int64) :=
  if gsY_X11_isIn_1 NF p1 0 1 v f w g = 1 then
    match gsY_X11_layGrowths_1 NF p2 v f w g with
    | (r6, v8, f9, w10, g11) =>
      if r6 = 0 then
        ((-1), v8, f9, w10, g11)
      else
        gsY_X11_ask_1_L13 NF p1 r6 v8 f9 w10 g11 (4294967296 + NF) 0 1
  else
    ((-1), v, f, w, g)
theorem gsY_X11_ask_1_q4 {NF : Nat} {p1 : Int32} {p2 : Int32} {v : Nat → Int32} {f : Nat → Nat → Int32} {w : Int64} {g : Nat → Int64} {r6 : Int32} {v8 : Nat → Int32} {f9 : Nat → Nat → Int32} {w10 : Int64} {g11 : Nat → Int64} (h0 : gsY_X11_isIn_1 NF p1 0 1 v f w g = 1) (h1 : gsY_X11_layGrowths_1 NF p2 v f w g = (r6, v8, f9, w10, g11)) (h2 : ¬ (r6 = 0)) : gsY_X11_ask_1 NF p1 p2 v f w g = gsY_X11_ask_1_L13 NF p1 r6 v8 f9 w10 g11 (4294967296 + NF) 0 1 := by
  simp only [gsY_X11_ask_1, h0, h1, if_neg h2, ite11, ite01, if_true, if_false]
theorem gsY_X11_ask_1_q5 {NF : Nat} {p1 : Int32} {p2 : Int32} {v : Nat → Int32} {f : Nat → Nat → Int32} {w : Int64} {g : Nat → Int64} {r6 : Int32} {v8 : Nat → Int32} {f9 : Nat → Nat → Int32} {w10 : Int64} {g11 : Nat → Int64} (h0 : gsY_X11_isIn_1 NF p1 0 1 v f w g = 1) (h1 : gsY_X11_layGrowths_1 NF p2 v f w g = (r6, v8, f9, w10, g11)) (h2 : (r6 = 0)) : gsY_X11_ask_1 NF p1 p2 v f w g = ((-1), v8, f9, w10, g11) := by
  simp only [gsY_X11_ask_1, h0, h1, if_pos h2, ite11, ite01, if_true, if_false]
theorem gsY_X11_ask_1_q6 {NF : Nat} {p1 : Int32} {p2 : Int32} {v : Nat → Int32} {f : Nat → Nat → Int32} {w : Int64} {g : Nat → Int64} (h0 : gsY_X11_isIn_1 NF p1 0 1 v f w g = 0) : gsY_X11_ask_1 NF p1 p2 v f w g = ((-1), v, f, w, g) := by
  simp only [gsY_X11_ask_1, h0, ite11, ite01, if_true, if_false]
theorem gsY_X11_ask_1_q0 {NF : Nat} {p1 : Int32} {r6 : Int32} {v8 : Nat → Int32} {f9 : Nat → Nat → Int32} {w10 : Int64} {g11 : Nat → Int64} {n13 : Nat} {l4_13 : Int32} {l5_13 : Int32} {r16 : Int32} (h0 : (20 < l5_13)) (h1 : ¬ (p1 = 0)) (h2 : r16 = gsY_X11_leftBy_1 NF l4_13 r6 v8 f9 w10 g11) : gsY_X11_ask_1_L13 NF p1 r6 v8 f9 w10 g11 (n13 + 1) l4_13 l5_13 = (r16, v8, f9, w10, g11) := by
  subst h2
  simp only [gsY_X11_ask_1_L13, if_pos h0, if_neg h1]
theorem gsY_X11_ask_1_q1 {NF : Nat} {p1 : Int32} {r6 : Int32} {v8 : Nat → Int32} {f9 : Nat → Nat → Int32} {w10 : Int64} {g11 : Nat → Int64} {n13 : Nat} {l4_13 : Int32} {l5_13 : Int32} (h0 : (20 < l5_13)) (h1 : (p1 = 0)) : gsY_X11_ask_1_L13 NF p1 r6 v8 f9 w10 g11 (n13 + 1) l4_13 l5_13 = (l4_13, v8, f9, w10, g11) := by
  simp only [gsY_X11_ask_1_L13, if_pos h0, if_pos h1]
theorem gsY_X11_ask_1_q2 {NF : Nat} {p1 : Int32} {r6 : Int32} {v8 : Nat → Int32} {f9 : Nat → Nat → Int32} {w10 : Int64} {g11 : Nat → Int64} {n13 : Nat} {l4_13 : Int32} {l5_13 : Int32} {r18 : Int32} {r20 : Int32} {t25 : Int32} (h0 : ¬ (20 < l5_13)) (h1 : r18 = gsY_X11_leftBy_1 NF l5_13 r6 v8 f9 w10 g11) (h2 : r20 = gsY_X11_leftBy_1 NF l4_13 r6 v8 f9 w10 g11) (h3 : (r20 ≤ r18)) (h4 : t25 = l5_13 + 1) : gsY_X11_ask_1_L13 NF p1 r6 v8 f9 w10 g11 (n13 + 1) l4_13 l5_13 = gsY_X11_ask_1_L13 NF p1 r6 v8 f9 w10 g11 n13 l4_13 t25 := by
  subst h1 h2 h4
  simp only [gsY_X11_ask_1_L13, if_neg h0, if_pos h3]
theorem gsY_X11_ask_1_q3 {NF : Nat} {p1 : Int32} {r6 : Int32} {v8 : Nat → Int32} {f9 : Nat → Nat → Int32} {w10 : Int64} {g11 : Nat → Int64} {n13 : Nat} {l4_13 : Int32} {l5_13 : Int32} {r18 : Int32} {r20 : Int32} {t31 : Int32} (h0 : ¬ (20 < l5_13)) (h1 : r18 = gsY_X11_leftBy_1 NF l5_13 r6 v8 f9 w10 g11) (h2 : r20 = gsY_X11_leftBy_1 NF l4_13 r6 v8 f9 w10 g11) (h3 : ¬ (r20 ≤ r18)) (h4 : t31 = l5_13 + 1) : gsY_X11_ask_1_L13 NF p1 r6 v8 f9 w10 g11 (n13 + 1) l4_13 l5_13 = gsY_X11_ask_1_L13 NF p1 r6 v8 f9 w10 g11 n13 l5_13 t31 := by
  subst h1 h2 h4
  simp only [gsY_X11_ask_1_L13, if_neg h0, if_neg h3]
