section
variable {NF : Nat} {v : Nat → Int32} {f : Nat → Nat → Int32} {v1 : Nat → Int32} {f1 : Nat → Nat → Int32} {w1 : Int64} {g : Nat → Int64}
def STM (f f1 : Nat → Nat → Int32) (a : Nat) : Prop := ∀ j, j < a → f 9 j = f1 16 j ∧ f 9 (6 + j) = f1 17 j ∧ f 9 (12 + j) = f1 18 j ∧ MB (f 9 j) (f 9 (6 + j)) (f 9 (12 + j))
def STC (f f1 : Nat → Nat → Int32) (b : Nat) : Prop := ∀ j, j < b → f 10 j = f1 19 j ∧ f 10 (6 + j) = f1 20 j ∧ f 10 (12 + j) = f1 21 j ∧ f 10 (18 + j) = f1 22 j ∧ CB (f 10 j) (f 10 (6 + j)) (f 10 (12 + j)) (f 10 (18 + j))
def STS (v v1 : Nat → Int32) : Prop := v 33 = v1 26 ∧ v 34 = v1 27 ∧ v 35 = v1 28 ∧ v 36 = v1 29 ∧ (0 ≤ v 33 ∧ v 33 ≤ 999) ∧ (0 ≤ v 34 ∧ v 34 ≤ 999) ∧ (0 ≤ v 35 ∧ v 35 ≤ 99) ∧ (0 ≤ v 36 ∧ v 36 ≤ 100)
def STF (v : Nat → Int32) (f : Nat → Nat → Int32) (v1 : Nat → Int32) (f1 : Nat → Nat → Int32) : Prop := (v 18 = 0 ∧ v1 16 = 0) ∨ (v1 16 = 1 ∧ ∃ (out : List (Nat × Int32)) (own : Nat), v 18 = nI out.length ∧ v1 9 = nI out.length ∧ out.length ≤ 270 ∧ own ≤ 30 ∧ WFo out own ∧ ∀ j, j < out.length → f 11 j = nI (out.getD j (0, 0)).1 ∧ ((out.getD j (0, 0)).1 = 2 → f 12 j = (out.getD j (0, 0)).2) ∧ f1 4 j = nI (eA (out.getD j (0, 0)).1) ∧ f1 5 j = eB (out.getD j (0, 0)).1 (out.getD j (0, 0)).2)
def STAT (v : Nat → Int32) (f : Nat → Nat → Int32) (v1 : Nat → Int32) (f1 : Nat → Nat → Int32) : Prop := (∃ a b, v 31 = nI a ∧ v1 24 = nI a ∧ a ≤ 6 ∧ v 32 = nI b ∧ v1 25 = nI b ∧ b ≤ 6 ∧ STM f f1 a ∧ STC f f1 b) ∧ STS v v1 ∧ STF v f v1 f1
def SIG (v : Nat → Int32) (f : Nat → Nat → Int32) (v1 : Nat → Int32) (f1 : Nat → Nat → Int32) : Prop := v 0 = v1 39 ∧ ∃ k, k ≤ 30 ∧ v 41 = nI k ∧ v1 38 = nI k ∧ ∀ j, j < k → f 23 j = f1 30 j ∧ f 24 j = f1 33 j ∧ f 25 j = f1 31 j ∧ f 26 j = f1 32 j ∧ (f 26 j = -1 ∨ 0 ≤ f 26 j)
def R3 (v : Nat → Int32) (f : Nat → Nat → Int32) (v1 : Nat → Int32) (f1 : Nat → Nat → Int32) : Prop := REL v f v1 f1 ∧ STAT v f v1 f1 ∧ SIG v f v1 f1
abbrev XSI : List Nat := [18, 31, 32, 33, 34, 35, 36]
abbrev XSF : List Nat := [9, 10, 11, 12]
abbrev YSI : List Nat := [9, 16, 24, 25, 26, 27, 28, 29]
abbrev YSF : List Nat := [4, 5, 16, 17, 18, 19, 20, 21, 22]
abbrev XRI : List Nat := [1, 7, 8]
abbrev XRF : List Nat := [0]
abbrev YRI : List Nat := [0, 1, 2]
abbrev YRF : List Nat := [0]
abbrev XGI : List Nat := [0, 41]
abbrev XGF : List Nat := [23, 24, 25, 26]
abbrev YGI : List Nat := [38, 39]
abbrev YGF : List Nat := [30, 31, 32, 33]
abbrev XAI : List Nat := [18, 31, 32, 33, 34, 35, 36, 1, 7, 8, 0, 41]
abbrev XAF : List Nat := [9, 10, 11, 12, 0, 23, 24, 25, 26]
abbrev YAI : List Nat := [9, 16, 24, 25, 26, 27, 28, 29, 0, 1, 2, 38, 39]
abbrev YAF : List Nat := [4, 5, 16, 17, 18, 19, 20, 21, 22, 0, 30, 31, 32, 33]
section
variable {v' : Nat → Int32} {f' : Nat → Nat → Int32} {v1' : Nat → Int32} {f1' : Nat → Nat → Int32}
theorem STAT.keep (h : STAT v f v1 f1) (a : ∀ k, XSI.contains k = true → v' k = v k) (b : ∀ k, XSF.contains k = true → f' k = f k) (c : ∀ k, YSI.contains k = true → v1' k = v1 k) (d : ∀ k, YSF.contains k = true → f1' k = f1 k) : STAT v' f' v1' f1' := by
  obtain ⟨⟨A, B, h1, h2, h3, h4, h5, h6, h7, h8⟩, ⟨s1, s2, s3, s4, s5, s6, s7, s8⟩, hF⟩ := h
  refine ⟨⟨A, B, (a 31 rfl).trans h1, (c 24 rfl).trans h2, h3, (a 32 rfl).trans h4, (c 25 rfl).trans h5, h6, fun j hj => ?_, fun j hj => ?_⟩, ?_, ?_⟩
  · rw [b 9 rfl, d 16 rfl, d 17 rfl, d 18 rfl]; exact h7 j hj
  · rw [b 10 rfl, d 19 rfl, d 20 rfl, d 21 rfl, d 22 rfl]; exact h8 j hj
  · unfold STS
    rw [a 33 rfl, a 34 rfl, a 35 rfl, a 36 rfl, c 26 rfl, c 27 rfl, c 28 rfl, c 29 rfl]
    exact ⟨s1, s2, s3, s4, s5, s6, s7, s8⟩
  · unfold STF
    rw [a 18 rfl, c 16 rfl, c 9 rfl, b 11 rfl, b 12 rfl, d 4 rfl, d 5 rfl]
    exact hF
theorem SIG.keep (h : SIG v f v1 f1) (a : ∀ k, XGI.contains k = true → v' k = v k) (b : ∀ k, XGF.contains k = true → f' k = f k) (c : ∀ k, YGI.contains k = true → v1' k = v1 k) (d : ∀ k, YGF.contains k = true → f1' k = f1 k) : SIG v' f' v1' f1' := by
  unfold SIG
  rw [a 0 rfl, a 41 rfl, c 38 rfl, c 39 rfl, b 23 rfl, b 24 rfl, b 25 rfl, b 26 rfl, d 30 rfl, d 31 rfl, d 32 rfl, d 33 rfl]
  exact h
theorem kx_in {N M : List Nat} (hs : N.all (fun k => M.contains k) = true) {k : Nat} (hk : N.contains k = true) : M.contains k = true := by
  have m : k ∈ N := by simpa using hk
  exact List.all_eq_true.mp hs k m
theorem R3.keep (h : R3 v f v1 f1) (a : ∀ k, XAI.contains k = true → v' k = v k) (b : ∀ k, XAF.contains k = true → f' k = f k) (c : ∀ k, YAI.contains k = true → v1' k = v1 k) (d : ∀ k, YAF.contains k = true → f1' k = f1 k) : R3 v' f' v1' f1' :=
  ⟨h.1.keep (a 1 rfl) (b 0 rfl) (a 7 rfl) (a 8 rfl) (c 0 rfl) (d 0 rfl) (c 1 rfl) (c 2 rfl),
   h.2.1.keep (fun k hk => a k (kx_in (by decide) hk)) (fun k hk => b k (kx_in (by decide) hk)) (fun k hk => c k (kx_in (by decide) hk)) (fun k hk => d k (kx_in (by decide) hk)),
   h.2.2.keep (fun k hk => a k (kx_in (by decide) hk)) (fun k hk => b k (kx_in (by decide) hk)) (fun k hk => c k (kx_in (by decide) hk)) (fun k hk => d k (kx_in (by decide) hk))⟩
theorem R3.tape (h : R3 v f v1 f1) (r : REL v' f' v1' f1') (a : ∀ k, (XSI ++ XGI).contains k = true → v' k = v k) (b : ∀ k, (XSF ++ XGF).contains k = true → f' k = f k) (c : ∀ k, (YSI ++ YGI).contains k = true → v1' k = v1 k) (d : ∀ k, (YSF ++ YGF).contains k = true → f1' k = f1 k) : R3 v' f' v1' f1' :=
  ⟨r, h.2.1.keep (fun k hk => a k (kx_in (by decide) hk)) (fun k hk => b k (kx_in (by decide) hk)) (fun k hk => c k (kx_in (by decide) hk)) (fun k hk => d k (kx_in (by decide) hk)),
   h.2.2.keep (fun k hk => a k (kx_in (by decide) hk)) (fun k hk => b k (kx_in (by decide) hk)) (fun k hk => c k (kx_in (by decide) hk)) (fun k hk => d k (kx_in (by decide) hk))⟩
end
theorem R3.feed {p1 p2 p3 p4 p5 r r' : Int32} {u : (Nat → Int32) × (Nat → Nat → Int32)} {u' : (Nat → Int32) × (Nat → Nat → Int32) × Int64 × (Nat → Int64)} (h : R3 v f v1 f1) (e : gsX_X10_feed_1 NF p1 p2 p3 p4 p5 v f = (r, u)) (e' : gsY_X11_feed_1 NF p1 p2 p3 p4 p5 v1 f1 w1 g = (r', u')) (a : ∀ k, (XSI ++ XGI).contains k = true → u.1 k = v k) (b : ∀ k, (XSF ++ XGF).contains k = true → u.2 k = f k) (c : ∀ k, (YSI ++ YGI).contains k = true → u'.1 k = v1 k) (d : ∀ k, (YSF ++ YGF).contains k = true → u'.2.1 k = f1 k) : r = r' ∧ R3 u.1 u.2 u'.1 u'.2.1 :=
  ⟨(h.1.feed e e').1, h.tape (h.1.feed e e').2 a b c d⟩
theorem R3.ends {p r r' : Int32} {u : (Nat → Int32) × (Nat → Nat → Int32)} {u' : (Nat → Int32) × (Nat → Nat → Int32) × Int64 × (Nat → Int64)} (h : R3 v f v1 f1) (e : gsX_X10_end_1 NF p v f = (r, u)) (e' : gsY_X11_end_1 NF p v1 f1 w1 g = (r', u')) (a : ∀ k, (XSI ++ XGI).contains k = true → u.1 k = v k) (b : ∀ k, (XSF ++ XGF).contains k = true → u.2 k = f k) (c : ∀ k, (YSI ++ YGI).contains k = true → u'.1 k = v1 k) (d : ∀ k, (YSF ++ YGF).contains k = true → u'.2.1 k = f1 k) : r = r' ∧ R3 u.1 u.2 u'.1 u'.2.1 :=
  ⟨(h.1.ends e e').1, h.tape (h.1.ends e e').2 a b c d⟩
theorem R3.reg {r r' : Int32} {u : (Nat → Int32) × (Nat → Nat → Int32)} {u' : (Nat → Int32) × (Nat → Nat → Int32) × Int64 × (Nat → Int64)} (h : R3 v f v1 f1) (e : gsX_X10_regiment_1 NF v f = (r, u)) (z0 : (u.1 1).toInt = 0) (t0 : u.1 0 = v 0) (a : (gsX_X6_read_1 NF v f).1 = 1 ∨ ((∀ k, (XSI ++ XGI).contains k = true → u.1 k = v k) ∧ ∀ k, (XSF ++ XGF).contains k = true → u.2 k = f k)) (e' : gsY_X11_regiment_1 NF v1 f1 w1 g = (r', u')) (z1 : (u'.1 0).toInt = 0) (t1 : u'.1 39 = v1 39) (b : (gsY_X11_readAll_1 NF v1 f1 w1 g).1 1 ≤ 0 ∨ ((∀ k, (YSI ++ YGI).contains k = true → u'.1 k = v1 k) ∧ ∀ k, (YSF ++ YGF).contains k = true → u'.2.1 k = f1 k)) : r = r' ∧ R3 u.1 u.2 u'.1 u'.2.1 := by
  obtain ⟨⟨⟨c, n, t⟩, h7, h8⟩, hS, hG⟩ := h
  have T0 : ∃ (c : Nat → Nat) (n : Nat), TAP c n u.1 u.2 u'.1 u'.2.1 := ⟨c, 0, Nat.zero_le _, n0_of z0, n0_of z1, fun k hk => absurd hk (Nat.not_lt_zero _)⟩
  rcases readPair (NF := NF) (w1 := w1) (g := g) t with ⟨v', f', v1', f1', w1', g', i', A, B, t', e1, e2, lr⟩ | ⟨v', f', v1', f1', w1', g', e1, e2, lf⟩
  · obtain ⟨l0, ⟨p7, p8, p2⟩, ⟨a1, a2, a3⟩, ⟨b1, b2, b3⟩, lm, lc, _, _, ⟨q0, q6, q15, _⟩, ⟨s1, s2, s3, s4, s5, s6⟩, o1, o2⟩ := lr
    obtain ⟨U, F, x1, ⟨x0, xx1, x7, x8, x18, x19, _, _, _, _, x31, x32, x33, x34, x35, x36, x41⟩, x9, x10, x11, _, _, _, _, _, _⟩ := xReg (NF := NF) e1 a1 b1 a3 b3
    have hform : ∃ n, n ≤ 300 ∧ ((v1' 15 = 0 ∧ n = 0) ∨ (v1' 15 = 1 ∧ v1' 8 = nI n)) := by
      by_cases hp : t' % 2 = 0
      · exact ⟨0, by decide, Or.inl ⟨by rw [q15, hp]; rfl, rfl⟩⟩
      · have hp : t' % 2 = 1 := by omega
        obtain ⟨out, own, k1, k2, k3, _⟩ := o2 hp
        exact ⟨out.length, by omega, Or.inr ⟨by rw [q15, hp]; rfl, k2⟩⟩
    obtain ⟨N, hN, h15⟩ := hform
    obtain ⟨U', F', y1, ⟨y0, yy1, y2, y9, y12, y16, y24, y25, y26, y27, y28, y29, _, _, y38, y39⟩, yF, yM, yC, _, _, _, _, _, _, _⟩ := yReg (NF := NF) e2 l0.2.2.2.2 a2 b2 a3 b3 hN h15
    rw [x1] at e
    rw [y1] at e'
    cases e
    cases e'
    refine ⟨a1.trans a2.symm, ⟨T0, ?_, ?_⟩, ⟨⟨A, B, x31.trans a1, y24.trans a2, a3, x32.trans b1, y25.trans b2, b3, fun j hj => ?_, fun j hj => ?_⟩, ?_, ?_⟩, ?_⟩
    · show U 7 = U' 1
      rw [x7, yy1, p7]; exact l0.2.2.2.2.symm
    · show U 8 = U' 2
      rw [x8, y2, p8, p2]
    · show F 9 j = F' 16 j ∧ F 9 (6 + j) = F' 17 j ∧ F 9 (12 + j) = F' 18 j ∧ MB (F 9 j) (F 9 (6 + j)) (F 9 (12 + j))
      rw [x9 j (by omega), x9 (6 + j) (by omega), x9 (12 + j) (by omega), (yM j hj).1, (yM j hj).2.1, (yM j hj).2.2]
      exact lm j hj
    · show F 10 j = F' 19 j ∧ F 10 (6 + j) = F' 20 j ∧ F 10 (12 + j) = F' 21 j ∧ F 10 (18 + j) = F' 22 j ∧ CB (F 10 j) (F 10 (6 + j)) (F 10 (12 + j)) (F 10 (18 + j))
      rw [x10 j (by omega), x10 (6 + j) (by omega), x10 (12 + j) (by omega), x10 (18 + j) (by omega), (yC j hj).1, (yC j hj).2.1, (yC j hj).2.2.1, (yC j hj).2.2.2]
      exact lc j hj
    · show STS U U'
      unfold STS
      rw [x33, x34, x35, x36, y26, y27, y28, y29]
      exact ⟨s1, s2, s3, s4, s6.1, s6.2.1, s6.2.2.1, s6.2.2.2.1⟩
    · show STF U F U' F'
      unfold STF
      rw [x18, y16, y9]
      by_cases hp : t' % 2 = 0
      · exact Or.inl ⟨(o1 hp).1, by rw [q15, hp]; rfl⟩
      · have hp : t' % 2 = 1 := by omega
        obtain ⟨out, own, k1, k2, k3, k4, k5, k6, k7, k8, k9⟩ := o2 hp
        have q15 : v1' 15 = 1 := by rw [q15, hp]; rfl
        rcases h15 with ⟨z, _⟩ | ⟨_, z⟩
        · rw [q15] at z; exact absurd z (by decide)
        · have zN : nI N = nI out.length := z.symm.trans k2
          have zN : N = out.length := (nI_eq (by omega) (by omega)).mp zN
          refine Or.inr ⟨q15, out, own, k1, by rw [zN], k3, k8, k9, fun j hj => ?_⟩
          obtain ⟨w1, w2⟩ := x11 j (by omega)
          obtain ⟨w3, w4⟩ := yF j (by omega)
          rw [w1, w2, w3, w4]
          exact ⟨(k4 j hj).1, (k4 j hj).2, (k5 j hj).1, (k5 j hj).2⟩
    · refine ⟨?_, 0, by decide, x41, y38, fun j hj => absurd hj (Nat.not_lt_zero _)⟩
      show U 0 = U' 39
      exact (show U 0 = v 0 from t0).trans (hG.1.trans (show U' 39 = v1 39 from t1).symm)
  · obtain ⟨s, j, s0, s1, q1, q2, q3, q4⟩ := lf
    have nle : ¬ v1' 1 ≤ 0 := by rw [q2]; exact nI_nle s0 (by omega)
    have ex := xRegF (NF := NF) e1
    have ey := yRegFail (NF := NF) e2 nle
    rw [e1] at a
    rw [e2] at b
    obtain ⟨a1, a2⟩ := a.resolve_left (show ¬ (0 : Int32) = 1 by decide)
    obtain ⟨b1, b2⟩ := b.resolve_left nle
    rw [ex] at e
    rw [ey] at e'
    cases e
    cases e'
    refine ⟨rfl, ⟨T0, ?_, ?_⟩, hS.keep (fun k hk => a1 k (kx_in (by decide) hk)) (fun k hk => a2 k (kx_in (by decide) hk)) (fun k hk => b1 k (kx_in (by decide) hk)) (fun k hk => b2 k (kx_in (by decide) hk)), hG.keep (fun k hk => a1 k (kx_in (by decide) hk)) (fun k hk => a2 k (kx_in (by decide) hk)) (fun k hk => b1 k (kx_in (by decide) hk)) (fun k hk => b2 k (kx_in (by decide) hk))⟩
    · exact q1.trans q2.symm
    · exact q3.trans q4.symm
end
