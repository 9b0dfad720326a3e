section
variable {NF : Nat} {v : Nat → Int32} {f : Nat → Nat → Int32} {v1 : Nat → Int32} {f1 : Nat → Nat → Int32} {w1 : Int64} {g : Nat → Int64} {r r' : Int32} {u : (Nat → Int32) × (Nat → Nat → Int32)} {u' : (Nat → Int32) × (Nat → Nat → Int32) × Int64 × (Nat → Int64)}
abbrev XTI : List Nat := [18, 31, 32, 33, 34, 35, 36, 0, 41, 20, 21, 22, 23]
abbrev XTF : List Nat := [9, 10, 11, 12, 23, 24, 25, 26, 15, 16, 17]
abbrev YTI : List Nat := [9, 16, 24, 25, 26, 27, 28, 29, 38, 39, 35, 36]
abbrev YTF : List Nat := [4, 5, 16, 17, 18, 19, 20, 21, 22, 30, 31, 32, 33, 23, 25, 36, 37]
theorem FREL.feed {p1 p2 p3 p4 p5 : Int32} (h : FREL v f v1 f1) (e : gsX_X10_feed_1 NF p1 p2 p3 p4 p5 v f = (r, u)) (e' : gsY_X11_feed_1 NF p1 p2 p3 p4 p5 v1 f1 w1 g = (r', u')) (a : ∀ k, XTI.contains k = true → u.1 k = v k) (b : ∀ k, XTF.contains k = true → u.2 k = f k) (c : ∀ k, YTI.contains k = true → u'.1 k = v1 k) (d : ∀ k, YTF.contains k = true → u'.2.1 k = f1 k) : r = r' ∧ FREL u.1 u.2 u'.1 u'.2.1 := by
  have q := h.1.feed e e' (fun k hk => a k (kx_in (by decide) hk)) (fun k hk => b k (kx_in (by decide) hk)) (fun k hk => c k (kx_in (by decide) hk)) (fun k hk => d k (kx_in (by decide) hk))
  exact ⟨q.1, h.cp q.2 (fun k hk => a k (kx_in (by decide) hk)) (fun k hk => b k (kx_in (by decide) hk)) (fun k hk => c k (kx_in (by decide) hk)) (fun k hk => d k (kx_in (by decide) hk))⟩
theorem FREL.ends {p : Int32} (h : FREL v f v1 f1) (e : gsX_X10_end_1 NF p v f = (r, u)) (e' : gsY_X11_end_1 NF p v1 f1 w1 g = (r', u')) (a : ∀ k, XTI.contains k = true → u.1 k = v k) (b : ∀ k, XTF.contains k = true → u.2 k = f k) (c : ∀ k, YTI.contains k = true → u'.1 k = v1 k) (d : ∀ k, YTF.contains k = true → u'.2.1 k = f1 k) : r = r' ∧ FREL u.1 u.2 u'.1 u'.2.1 := by
  have q := h.1.ends e e' (fun k hk => a k (kx_in (by decide) hk)) (fun k hk => b k (kx_in (by decide) hk)) (fun k hk => c k (kx_in (by decide) hk)) (fun k hk => d k (kx_in (by decide) hk))
  exact ⟨q.1, h.cp q.2 (fun k hk => a k (kx_in (by decide) hk)) (fun k hk => b k (kx_in (by decide) hk)) (fun k hk => c k (kx_in (by decide) hk)) (fun k hk => d k (kx_in (by decide) hk))⟩
theorem FREL.of3 (h : FREL v f v1 f1) (q : r = r' ∧ R3 u.1 u.2 u'.1 u'.2.1) (a : ∀ k, ([31, 32, 20, 21, 22, 23] : List Nat).contains k = true → u.1 k = v k) (b : ∀ k, ([9, 10, 15, 16, 17] : List Nat).contains k = true → u.2 k = f k) (c : ∀ k, ([24, 25, 35, 36] : List Nat).contains k = true → u'.1 k = v1 k) (d : ∀ k, ([16, 17, 18, 19, 20, 21, 22, 23, 25, 36, 37] : List Nat).contains k = true → u'.2.1 k = f1 k) : r = r' ∧ FREL u.1 u.2 u'.1 u'.2.1 := ⟨q.1, h.cp q.2 a b c d⟩
theorem zdiv (c : Nat) : nI (0 / 2 ^ c % 2) = 0 := by rw [Nat.zero_div]; rfl
theorem FREL.reg (h : FREL v f v1 f1) (e : gsX_X10_regiment_1 NF v f = (r, u)) (z0 : (u.1 1).toInt = 0) (t0 : u.1 0 = v 0) (a : (gsX_X6_read_1 NF v f).1 = 1 ∨ ((∀ k, XTI.contains k = true → u.1 k = v k) ∧ ∀ k, XTF.contains k = true → u.2 k = f k)) (e' : gsY_X11_regiment_1 NF v1 f1 w1 g = (r', u')) (z1 : (u'.1 0).toInt = 0) (t1 : u'.1 39 = v1 39) (b : (gsY_X11_readAll_1 NF v1 f1 w1 g).1 1 ≤ 0 ∨ ((∀ k, YTI.contains k = true → u'.1 k = v1 k) ∧ ∀ k, YTF.contains k = true → u'.2.1 k = f1 k)) : r = r' ∧ FREL u.1 u.2 u'.1 u'.2.1 := by
  have R := h.1.reg e z0 t0 (a.imp id (fun q => ⟨fun k hk => q.1 k (kx_in (by decide) hk), fun k hk => q.2 k (kx_in (by decide) hk)⟩)) e' z1 t1 (b.imp id (fun q => ⟨fun k hk => q.1 k (kx_in (by decide) hk), fun k hk => q.2 k (kx_in (by decide) hk)⟩))
  refine ⟨R.1, ?_⟩
  have hh := h
  obtain ⟨⟨⟨⟨c, n, t⟩, _, _⟩, _, _⟩, _⟩ := h
  rcases readPair (NF := NF) (w1 := w1) (g := g) t with ⟨v', f', v1', f1', w1', g', i', A, B, t', e1, e2, lr⟩ | ⟨v', f', v1', f1', w1', g', e1, e2, lf⟩
  · obtain ⟨l0, ⟨p7, p8, p2⟩, ⟨a1, a2, a3⟩, ⟨b1, b2, b3⟩, lm, lc, _, _, ⟨q0, q6, q15, _⟩, ⟨s1, s2, s3, s4, s5, s6⟩, o1, o2⟩ := lr
    obtain ⟨U, F, x1, ⟨x0, xx1, x7, x8, x18, x19, x20, x21, x22, x23, x31, x32, x33, x34, x35, x36, x41⟩, x9, x10, x11, xm, xc, x42, x43, x17, _⟩ := xReg (NF := NF) e1 a1 b1 a3 b3
    have hform : ∃ n, n ≤ 300 ∧ ((v1' 15 = 0 ∧ n = 0) ∨ (v1' 15 = 1 ∧ v1' 8 = nI n)) := by
      by_cases hp : t' % 2 = 0
      · exact ⟨0, by decide, Or.inl ⟨by rw [q15, hp]; rfl, rfl⟩⟩
      · have hp : t' % 2 = 1 := by omega
        obtain ⟨out, own, k1, k2, k3, _⟩ := o2 hp
        exact ⟨out.length, by omega, Or.inr ⟨by rw [q15, hp]; rfl, k2⟩⟩
    obtain ⟨N, hN, h15⟩ := hform
    obtain ⟨U', F', y1, ⟨y0, yy1, y2, y9, y12, y16, y24, y25, y26, y27, y28, y29, y35, y36, y38, y39⟩, yF, yM, yC, ym, yc, yt, yd, ys, yb, _⟩ := yReg (NF := NF) e2 l0.2.2.2.2 a2 b2 a3 b3 hN h15
    rw [x1] at e
    rw [y1] at e'
    cases e
    cases e'
    refine ⟨R.2, A, B, x31.trans a1, y24.trans a2, a3, x32.trans b1, y25.trans b2, b3, fun j hj => ?_, fun j hj => ?_, ⟨fun m hm => ?_, fun k hk => ?_, ⟨0, by decide, yt, fun k hk => ?_⟩, ⟨?_, 0, by decide, x42⟩, ⟨?_, ?_⟩, fun m m' hm hm' q1 q2 => ?_⟩, ⟨0, 0, 0, by decide, by decide, x21, x22, x23, y35, y36, fun k hk => absurd hk (Nat.not_lt_zero _), fun k _ hk => absurd hk (Nat.not_lt_zero _), fun k hk => ?_⟩, ⟨0, by decide, x20, fun i hi => ⟨?_, fun q => ?_⟩⟩⟩
    · show F 9 j = F' 16 j ∧ F 9 (6 + j) = F' 17 j ∧ F 9 (12 + j) = F' 18 j ∧ MB (F 9 j) (F 9 (6 + j)) (F 9 (12 + j))
      rw [x9 j (by omega), x9 (6 + j) (by omega), x9 (12 + j) (by omega), (yM j hj).1, (yM j hj).2.1, (yM j hj).2.2]
      exact lm j hj
    · show F 10 j = F' 19 j ∧ F 10 (6 + j) = F' 20 j ∧ F 10 (12 + j) = F' 21 j ∧ F 10 (18 + j) = F' 22 j ∧ CB (F 10 j) (F 10 (6 + j)) (F 10 (12 + j)) (F 10 (18 + j))
      rw [x10 j (by omega), x10 (6 + j) (by omega), x10 (12 + j) (by omega), x10 (18 + j) (by omega), (yC j hj).1, (yC j hj).2.1, (yC j hj).2.2.1, (yC j hj).2.2.2]
      exact lc j hj
    · show F 15 m = F' 23 m ∧ NBx 99 (F 15 m) ∧ F 15 (6 + m) = F' 23 (6 + m) ∧ (F 15 (6 + m) = -1 ∨ ∃ c, c < B ∧ F 15 (6 + m) = nI c)
      rw [(xm m hm).1, (xm m hm).2, (ym m hm).1, (ym m hm).2]
      obtain ⟨_, z2, _, zb⟩ := lm m hm
      exact ⟨z2, NBx.of (n := 99) rfl (by decide) zb.2.1, rfl, Or.inl rfl⟩
    · show (F 15 (12 + k) = F' 23 (12 + k) ∧ NBx 99 (F 15 (12 + k))) ∧ (F 15 (18 + k) = F' 23 (18 + k) ∧ NBx 99 (F 15 (18 + k))) ∧ (F 15 (24 + k) = F' 23 (24 + k) ∧ NBx 99 (F 15 (24 + k))) ∧ (F 15 (30 + k) = F' 23 (30 + k) ∧ NBx 99 (F 15 (30 + k)))
      obtain ⟨w1, w2, w3, w4, _⟩ := xc k hk
      obtain ⟨u1, u2, u3, u4⟩ := yc k hk
      rw [w1, w2, w3, w4, u1, u2, u3, u4]
      obtain ⟨z1, z2, z3, z4, zb⟩ := lc k hk
      obtain ⟨j3, hj3, ej3⟩ := NBx.of (n := 20) rfl (by decide) zb.2.2.1
      exact ⟨⟨z1, NBx.of (n := 99) rfl (by decide) zb.1⟩, ⟨z2, NBx.of (n := 99) rfl (by decide) zb.2.1⟩, ⟨z3, j3, by omega, ej3⟩, ⟨z4, NBx.of (n := 99) rfl (by decide) zb.2.2.2⟩⟩
    · show F 15 (36 + k) = _
      rw [(xc k hk).2.2.2.2, zdiv]
    · show F 15 42 = F' 23 37
      rw [x42, yd]
    · show F 15 43 = F' 23 38
      rw [x43, ys]; exact s5
    · show NBx 999 (F 15 43)
      rw [x43]; exact NBx.of (n := 999) rfl (by decide) s6.2.2.2.2
    · exact absurd (xm m hm).2 q2
    · show F 17 ((0 + 0) % 41 * 44 + k) = F 15 k
      rw [show (0 + 0) % 41 * 44 + k = k by omega]; exact x17 k hk
    · show F' 36 i = _
      rw [yb i hi, zdiv]; exact nar0
    · rw [Nat.zero_div] at q; exact absurd q (by decide)
  · obtain ⟨s, j, s0, s1, q1, q2, q3, q4⟩ := lf
    have nle : ¬ v1' 1 ≤ 0 := by rw [q2]; exact nI_nle s0 (by omega)
    rw [e1] at a
    rw [e2] at b
    obtain ⟨a1, a2⟩ := a.resolve_left (show ¬ (0 : Int32) = 1 by decide)
    obtain ⟨b1, b2⟩ := b.resolve_left nle
    exact hh.cp R.2 (fun k hk => a1 k (kx_in (by decide) hk)) (fun k hk => a2 k (kx_in (by decide) hk)) (fun k hk => b1 k (kx_in (by decide) hk)) (fun k hk => b2 k (kx_in (by decide) hk))
end
