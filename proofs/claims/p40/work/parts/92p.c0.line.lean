section
variable {NF : Nat}
def LOK (NF : Nat) (c : Nat → Nat) (n : Nat) (x : Int32 × (Nat → Int32) × (Nat → Nat → Int32)) (y : (Nat → Int32) × (Nat → Nat → Int32) × Int64 × (Nat → Int64)) (mu : Nat) : Prop := ∃ (v' : Nat → Int32) (f' : Nat → Nat → Int32) (v1' : Nat → Int32) (f1' : Nat → Nat → Int32) (w1' : Int64) (g' : Nat → Int64) (i' a' b' t' : Nat), x = (1, v', f') ∧ y = (v1', f1', w1', g') ∧ LR c n v' f' v1' f1' w1' g' i' a' b' t' ∧ a' + b' + tBits t' = mu + 1
def LNO (c : Nat → Nat) (n : Nat) (x : Int32 × (Nat → Int32) × (Nat → Nat → Int32)) (y : (Nat → Int32) × (Nat → Nat → Int32) × Int64 × (Nat → Int64)) : Prop := ∃ (v' : Nat → Int32) (f' : Nat → Nat → Int32) (v1' : Nat → Int32) (f1' : Nat → Nat → Int32) (w1' : Int64) (g' : Nat → Int64), x = (0, v', f') ∧ y = (v1', f1', w1', g') ∧ LF c n v' v1'
theorem xTail0 (v : Nat → Int32) (f : Nat → Nat → Int32) : xTail NF (0, v, f) = (0, v, f) := by
  simp only [xTail, ite01]
theorem LF.s {c : Nat → Nat} {n : Nat} {v v1 : Nat → Int32} (h : LF c n v v1) : ∃ s, 0 < s ∧ s < 100 ∧ v1 1 = nI s := by
  obtain ⟨s, j, a, b, d, e, _⟩ := h
  exact ⟨s, a, b, e⟩
theorem tailOK {c : Nat → Nat} {n i a b t : Nat} {v : Nat → Int32} {f : Nat → Nat → Int32} {v1 : Nat → Int32} {f1 : Nat → Nat → Int32} {w1 : Int64} {g : Nat → Int64} (hc : ∀ k, k < n → c k < 256) (h : LR c n v f v1 f1 w1 g i a b t) {mu : Nat} (hm : a + b + tBits t = mu + 1) : LOK NF c n (xTail NF (1, v, f)) (yTail NF v1 f1 w1 g) mu ∨ LNO c n (xTail NF (1, v, f)) (yTail NF v1 f1 w1 g) := by
  rcases tailLR (NF := NF) hc h with ⟨v', v1', w1', e1, e2, e3⟩ | ⟨v', v1', e1, e2, e3⟩
  · exact Or.inl ⟨v', f, v1', f1, w1', g, i + 1, a, b, t, e1, e2, e3, hm⟩
  · exact Or.inr ⟨v', f, v1', f1, w1, g, e1, e2, e3⟩
theorem tailNO {c : Nat → Nat} {n : Nat} {v v1 : Nat → Int32} {f f1 : Nat → Nat → Int32} {w1 : Int64} {g : Nat → Int64} (h : LF c n v v1) : LNO c n (xTail NF (0, v, f)) (yTail NF v1 f1 w1 g) := by
  obtain ⟨s, s0, s1, s2⟩ := h.s
  exact ⟨v, f, v1, f1, w1, g, xTail0 v f, yTail_f s2 s0 s1, h⟩
theorem refNO {c : Nat → Nat} {n i : Nat} {v : Nat → Int32} {f : Nat → Nat → Int32} {v1 : Nat → Int32} {f1 : Nat → Nat → Int32} {w1 : Int64} {g : Nat → Int64} (hc : ∀ k, k < n → c k < 256) (h : TP c n i v f v1 f1 w1) : LNO c n (xmB (gsX_X6_refuse_1 NF v f)) (gsY_X11_readLine_1_J8 NF v1 f1 w1 g) := by
  obtain ⟨v', v1', a, b, d⟩ := yl_end (NF := NF) (g := g) hc h
  exact ⟨v', f, v1', f1, w1, g, by rw [a]; exact xmB0 _ _, b, d⟩
theorem XSref {c : Nat → Nat} {n i : Nat} {v : Nat → Int32} {f : Nat → Nat → Int32} (hc : ∀ k, k < n → c k < 256) (C : CX c n i v) : ∃ v', gsX_X6_refuse_1 NF v f = (0, v', f) ∧ True := ⟨_, (xRef hc C).trans rfl, trivial⟩
theorem illPair {c : Nat → Nat} {n i a b t : Nat} {v : Nat → Int32} {f : Nat → Nat → Int32} {v1 : Nat → Int32} {f1 : Nat → Nat → Int32} {w1 : Int64} {g : Nat → Int64} (hc : ∀ k, k < n → c k < 256) (h : LR c n v f v1 f1 w1 g i a b t) (hk : tk_k c n i = 103) (hb : t % 2 = 0) :
    LOK NF c n (match gsX_X6_opened_1 NF 103 v f with | (r24, v26, f27) => if r24 = 1 then xTail NF (gsX_X6_expression_1 NF v26 f27) else (0, v26, f27)) (yT NF (gsY_X11_formula_1 NF v1 f1 w1 g)) (a + b + tBits t) ∨ LNO c n (match gsX_X6_opened_1 NF 103 v f with | (r24, v26, f27) => if r24 = 1 then xTail NF (gsX_X6_expression_1 NF v26 f27) else (0, v26, f27)) (yT NF (gsY_X11_formula_1 NF v1 f1 w1 g)) := by
  obtain ⟨h0, ⟨p7, p8, p2⟩, ⟨a1, a2, a3⟩, ⟨b1, b2, b3⟩, m, d, n1, n2, ⟨t0, t6, t15, t30, t31, t32, t33, t34⟩, ⟨s1, s2, s3, s4, s5, s6⟩, o1, o2⟩ := h
  obtain ⟨u1, u2⟩ := opn t t0 0 (by decide)
  have hb' : t / 2 ^ 0 % 2 = 0 := by simpa using hb
  obtain ⟨u2, u3, u4, u5⟩ := u2 hb'
  obtain ⟨q1, q2, q3⟩ := o1 hb
  obtain ⟨T, T1, C, C1, hf⟩ := h0
  obtain ⟨v2, e2, c2, x2⟩ := advX (NF := NF) (i := i) (T.upd (k := 6) (x := nI (t + 2 ^ 0)) (by decide)) (upS (k := 6) (x := nI (t + 2 ^ 0)) (by decide) (by decide) (by decide) (by decide) C).2.2.1
  have eO : gsX_X6_opened_1 NF 103 v f = (1, v2, f) := by
    have : gsX_X6_opened_1 NF (nI (103 + 0)) v f = (1, v2, f) := by
      simp only [gsX_X6_opened_1, t6]
      rw [if_pos (u1.mpr hb'), u2, e2]
    exact this
  rw [eO]
  have red : (match ((1 : Int32), v2, f) with | (r24, v26, f27) => if r24 = 1 then xTail NF (gsX_X6_expression_1 NF v26 f27) else (0, v26, f27)) = xTail NF (gsX_X6_expression_1 NF v2 f) := if_pos rfl
  rw [red]
  have T2 : TX c n v2 f := (T.upd (k := 6) (x := nI (t + 2 ^ 0)) (by decide)).of (x2 1 (by decide) (by decide) (by decide) (by decide)) rfl
  have XX : ∀ k, 7 ≤ k → v2 k = v k := fun k hk => (x2 k (by omega) (by omega) (by omega) (by omega)).trans (pk_un (by omega))
  rcases formPair (NF := NF) (g := g) hc T2 T1 c2 ((XX 16 (by decide)).trans q1) ((XX 17 (by decide)).trans q2) C1 (by omega) hf q3 with ⟨v3, f3, v4, f4, w4, j, own, out, k1, k2, k3, k4, k5, k6, k7⟩ | ⟨v3, f3, v4, f4, w4, s, j, k1, k2, k3, k4, k5, k6⟩
  · rw [k1, k2]
    have hT3 := XS.t T2 k3
    have hT4 := YR.t (T1.upd (k := 15) (x := 1) (by decide)) k4
    have hf4 := YR.f1 k4 ((pk_un (by decide)).trans hf)
    have e0 := u5 0 (by decide)
    have par : (t + 2 ^ 0) % 2 = 1 := by simpa using e0
    obtain ⟨kc, kv, kf, k16, k17, ko⟩ := k3
    obtain ⟨lc, lv, lf, l8, l10, l11, l13, l14, lo, ls⟩ := k4
    have X3 : ∀ k, 7 ≤ k → k ≠ 16 → k ≠ 17 → v3 k = v k := fun k hk z1 z2 => (kv k (by omega) (by omega) (by omega) (by omega) z1 z2).trans (XX k hk)
    have Y4' : ∀ k, (k = 2 ∨ k = 9 ∨ k = 12 ∨ 16 ≤ k) → v4 k = v1 k := fun k hk => (lv k (by omega) (by omega) (by omega) (by omega) (by omega) (by omega) (by omega) (by omega) (by omega)).trans (pk_un (by omega))
    have lr : LR c n v3 f3 v4 f4 w4 g j a b (t + 2 ^ 0) := by
      refine ⟨⟨hT3, hT4, kc, lc, hf4⟩, ⟨(X3 7 (by decide) (by decide) (by decide)).trans p7, (X3 8 (by decide) (by decide) (by decide)).trans p8, (Y4' 2 (by decide)).trans p2⟩, ⟨(X3 9 (by decide) (by decide) (by decide)).trans a1, (Y4' 17 (by decide)).trans a2, a3⟩, ⟨(X3 10 (by decide) (by decide) (by decide)).trans b1, (Y4' 18 (by decide)).trans b2, b3⟩, fun z hz => ?_, fun z hz => ?_, fun z hz => ?_, fun z hz => ?_, ⟨u3, ?_, ?_, ?_, ?_, ?_, ?_, ?_⟩, ⟨?_, ?_, ?_, ?_, ?_, ?_⟩, fun z => ?_, fun _ => ⟨out, own, k16, l8, k6, ko, lo, k17, l11, k5, k7⟩⟩
      · rw [kf 1 (by decide) (by decide), lf 9 (by decide) (by decide) (by decide), lf 10 (by decide) (by decide) (by decide), lf 11 (by decide) (by decide) (by decide)]; exact m z hz
      · rw [kf 2 (by decide) (by decide), lf 12 (by decide) (by decide) (by decide), lf 13 (by decide) (by decide) (by decide), lf 14 (by decide) (by decide) (by decide), lf 15 (by decide) (by decide) (by decide)]; exact d z hz
      · rw [kf 7 (by decide) (by decide)]; exact n1 z hz
      · rw [kf 8 (by decide) (by decide)]; exact n2 z hz
      · exact (kv 6 (by decide) (by decide) (by decide) (by decide) (by decide) (by decide)).trans ((x2 6 (by decide) (by decide) (by decide) (by decide)).trans pk_us)
      · rw [par]; exact (lv 15 (by decide) (by decide) (by decide) (by decide) (by decide) (by decide) (by decide) (by decide) (by decide)).trans pk_us
      · rw [Y4' 30 (by decide), show (t + 2 ^ 0) / 2 % 2 = t / 2 % 2 from u5 1 (by decide)]; exact t30
      · rw [Y4' 31 (by decide), show (t + 2 ^ 0) / 4 % 2 = t / 4 % 2 from u5 2 (by decide)]; exact t31
      · rw [Y4' 32 (by decide), show (t + 2 ^ 0) / 8 % 2 = t / 8 % 2 from u5 3 (by decide)]; exact t32
      · rw [Y4' 33 (by decide), show (t + 2 ^ 0) / 16 % 2 = t / 16 % 2 from u5 4 (by decide)]; exact t33
      · rw [Y4' 34 (by decide), show (t + 2 ^ 0) / 32 % 2 = t / 32 % 2 from u5 5 (by decide)]; exact t34
      · rw [X3 11 (by decide) (by decide) (by decide), Y4' 19 (by decide)]; exact s1
      · rw [X3 12 (by decide) (by decide) (by decide), Y4' 20 (by decide)]; exact s2
      · rw [X3 13 (by decide) (by decide) (by decide), Y4' 21 (by decide)]; exact s3
      · rw [X3 14 (by decide) (by decide) (by decide), Y4' 22 (by decide)]; exact s4
      · rw [X3 15 (by decide) (by decide) (by decide), Y4' 23 (by decide)]; exact s5
      · rw [X3 11 (by decide) (by decide) (by decide), X3 12 (by decide) (by decide) (by decide), X3 13 (by decide) (by decide) (by decide), X3 14 (by decide) (by decide) (by decide), X3 15 (by decide) (by decide) (by decide)]; exact s6
      · omega
    exact tailOK hc lr (by omega)
  · rw [k1, k2]
    refine Or.inr (tailNO ⟨s, j, k5, k6, k3.1, k4.1, k3.2.1, k4.2.1⟩)
theorem linePair {c : Nat → Nat} {n i a b t : Nat} {v : Nat → Int32} {f : Nat → Nat → Int32} {v1 : Nat → Int32} {f1 : Nat → Nat → Int32} {w1 : Int64} {g : Nat → Int64} (hc : ∀ k, k < n → c k < 256) (h : LR c n v f v1 f1 w1 g i a b t) : LOK NF c n (gsX_X6_line_1 NF v f) (gsY_X11_readLine_1 NF v1 f1 w1 g) (a + b + tBits t) ∨ LNO c n (gsX_X6_line_1 NF v f) (gsY_X11_readLine_1 NF v1 f1 w1 g) := by
  have hkl := tk_lt hc i
  have h' := h
  obtain ⟨h0, ⟨p7, p8, p2⟩, ⟨a1, a2, a3⟩, ⟨b1, b2, b3⟩, m, d, n1, n2, ⟨t0, t6, t15, t30, t31, t32, t33, t34⟩, ⟨s1, s2, s3, s4, s5, s6⟩, o1, o2⟩ := h
  have C := h0.2.2.1
  have C1 := h0.2.2.2.1
  have eL : gsX_X6_line_1 NF v f = (if tk_k c n i = 101 then xTail NF (gsX_X6_manLine_1 NF v f) else if tk_k c n i = 102 then xTail NF (gsX_X6_coatLine_1 NF v f) else if tk_k c n i = 103 then (match gsX_X6_opened_1 NF 103 v f with | (r24, v26, f27) => if r24 = 1 then xTail NF (gsX_X6_expression_1 NF v26 f27) else (0, v26, f27)) else if tk_k c n i = 104 then xTail NF (gsX_X6_settingLine_1 NF 999 v f) else if tk_k c n i = 105 then xTail NF (gsX_X6_settingLine_1 NF 999 v f) else if tk_k c n i = 106 then xTail NF (gsX_X6_settingLine_1 NF 99 v f) else if tk_k c n i = 107 then xTail NF (gsX_X6_settingLine_1 NF 100 v f) else if tk_k c n i = 108 then xTail NF (gsX_X6_settingLine_1 NF 999 v f) else xmB (gsX_X6_refuse_1 NF v f)) := by
    unfold gsX_X6_line_1
    rw [C.1]
    by_cases e101 : tk_k c n i = 101
    · rw [if_pos (show nI (tk_k c n i) = (101 : Int32) by rw [e101]; rfl), if_pos e101]; rfl
    rw [if_neg (nlit 101 101 rfl (by omega) (by decide) e101), if_neg e101]
    by_cases e102 : tk_k c n i = 102
    · rw [if_pos (show nI (tk_k c n i) = (102 : Int32) by rw [e102]; rfl), if_pos e102]; rfl
    rw [if_neg (nlit 102 102 rfl (by omega) (by decide) e102), if_neg e102]
    by_cases e103 : tk_k c n i = 103
    · rw [if_pos (show nI (tk_k c n i) = (103 : Int32) by rw [e103]; rfl), if_pos e103]; rfl
    rw [if_neg (nlit 103 103 rfl (by omega) (by decide) e103), if_neg e103]
    by_cases e104 : tk_k c n i = 104
    · rw [if_pos (show nI (tk_k c n i) = (104 : Int32) by rw [e104]; rfl), if_pos e104]; rfl
    rw [if_neg (nlit 104 104 rfl (by omega) (by decide) e104), if_neg e104]
    by_cases e105 : tk_k c n i = 105
    · rw [if_pos (show nI (tk_k c n i) = (105 : Int32) by rw [e105]; rfl), if_pos e105]; rfl
    rw [if_neg (nlit 105 105 rfl (by omega) (by decide) e105), if_neg e105]
    by_cases e106 : tk_k c n i = 106
    · rw [if_pos (show nI (tk_k c n i) = (106 : Int32) by rw [e106]; rfl), if_pos e106]; rfl
    rw [if_neg (nlit 106 106 rfl (by omega) (by decide) e106), if_neg e106]
    by_cases e107 : tk_k c n i = 107
    · rw [if_pos (show nI (tk_k c n i) = (107 : Int32) by rw [e107]; rfl), if_pos e107]; rfl
    rw [if_neg (nlit 107 107 rfl (by omega) (by decide) e107), if_neg e107]
    by_cases e108 : tk_k c n i = 108
    · rw [if_pos (show nI (tk_k c n i) = (108 : Int32) by rw [e108]; rfl), if_pos e108]; rfl
    rw [if_neg (nlit 108 108 rfl (by omega) (by decide) e108), if_neg e108]
    rfl
  rw [eL]
  have refO : ∀ d, 1 ≤ d → d ≤ 5 → tk_k c n i = 103 + d → ¬ t / 2 ^ d % 2 = 0 → ∀ mo, xTail NF (gsX_X6_settingLine_1 NF mo v f) = xmB (gsX_X6_refuse_1 NF v f) := fun d h1 h2 hk hb mo => by
    obtain ⟨v', e, _⟩ := XSref (NF := NF) (f := f) hc C
    have eo := settF (NF := NF) (f := f) C h2 hk t0 t6 hb
    simp only [gsX_X6_settingLine_1, C.1, hk, eo, e, xmB0, ite01]
    exact xTail0 _ _
  by_cases e101 : tk_k c n i = 101
  · rw [if_pos e101, yl_101 hc C1, if_pos e101]
    by_cases ha : a < 6
    · rw [if_neg (show ¬ (6 : Int32) ≤ v1 17 by rw [a2]; exact nI_ge (b := 6) ha (by omega))]
      rcases manPair (NF := NF) (g := g) hc h0 (by omega) ha a1 a2 n1 with ⟨v', v1', w1', i', p, x, y, z, k1, k2, k3, k4, k5, k6, kb⟩ | ⟨v', v1', f', f1', w1', g', k1, k2, k3, _, _⟩
      · rw [k1, k2]
        exact tailOK hc ((h'.go k5 k6 k3).man ha k4 kb) (by omega)
      · rw [k1, k2]
        exact Or.inr (tailNO k3.lf)
    · rw [if_pos (show (6 : Int32) ≤ v1 17 by rw [a2]; exact nI_le (a := 6) (by omega) (by omega)), yl_102 hc C1, if_neg (show ¬ tk_k c n i = 102 by omega), yl_103 hc C1, if_neg (show ¬ tk_k c n i = 103 by omega), yl_104 hc C1, if_neg (show ¬ tk_k c n i = 104 by omega), yl_105 hc C1, if_neg (show ¬ tk_k c n i = 105 by omega), yl_106 hc C1, if_neg (show ¬ tk_k c n i = 106 by omega), yl_107 hc C1, if_neg (show ¬ tk_k c n i = 107 by omega), yl_108 hc C1, if_neg (show ¬ tk_k c n i = 108 by omega)]
      have eM : xTail NF (gsX_X6_manLine_1 NF v f) = xmB (gsX_X6_refuse_1 NF v f) := by
        obtain ⟨v', e, _⟩ := XSref (NF := NF) (f := f) hc C
        simp only [gsX_X6_manLine_1, a1]
        rw [if_neg (show ¬ nI a < (6 : Int32) from nI_nlt (b := 6) (by omega) (by omega)), e]
        simp only [ite01, xmB0]
        exact xTail0 _ _
      rw [eM]
      exact Or.inr (refNO hc h0)
  by_cases e102 : tk_k c n i = 102
  · rw [if_neg e101, if_pos e102, yl_101 hc C1, if_neg e101, yl_102 hc C1, if_pos e102]
    by_cases ha : b < 6
    · rw [if_neg (show ¬ (6 : Int32) ≤ v1 18 by rw [b2]; exact nI_ge (b := 6) ha (by omega))]
      rcases coatPair (NF := NF) (g := g) hc h0 (by omega) ha b1 b2 n2 with ⟨v', v1', w1', i', p, x, y, z, u, k1, k2, k3, k4, k5, k6, kb⟩ | ⟨v', v1', f', f1', w1', g', k1, k2, k3, _, _⟩
      · rw [k1, k2]
        exact tailOK hc ((h'.go k5 k6 k3).coat ha k4 kb) (by omega)
      · rw [k1, k2]
        exact Or.inr (tailNO k3.lf)
    · rw [if_pos (show (6 : Int32) ≤ v1 18 by rw [b2]; exact nI_le (a := 6) (by omega) (by omega)), yl_103 hc C1, if_neg (show ¬ tk_k c n i = 103 by omega), yl_104 hc C1, if_neg (show ¬ tk_k c n i = 104 by omega), yl_105 hc C1, if_neg (show ¬ tk_k c n i = 105 by omega), yl_106 hc C1, if_neg (show ¬ tk_k c n i = 106 by omega), yl_107 hc C1, if_neg (show ¬ tk_k c n i = 107 by omega), yl_108 hc C1, if_neg (show ¬ tk_k c n i = 108 by omega)]
      have eM : xTail NF (gsX_X6_coatLine_1 NF v f) = xmB (gsX_X6_refuse_1 NF v f) := by
        obtain ⟨v', e, _⟩ := XSref (NF := NF) (f := f) hc C
        simp only [gsX_X6_coatLine_1, b1]
        rw [if_neg (show ¬ nI b < (6 : Int32) from nI_nlt (b := 6) (by omega) (by omega)), e]
        simp only [ite01, xmB0]
        exact xTail0 _ _
      rw [eM]
      exact Or.inr (refNO hc h0)
  by_cases e103 : tk_k c n i = 103
  · rw [if_neg e101, if_neg e102, if_pos e103, yl_101 hc C1, if_neg e101, yl_102 hc C1, if_neg e102, yl_103 hc C1, if_pos e103]
    by_cases hb : t % 2 = 0
    · rw [if_pos (show v1 15 = 0 by rw [t15, hb]; rfl)]
      exact illPair hc h' e103 hb
    · rw [if_neg (show ¬ v1 15 = 0 by rw [t15, show t % 2 = 1 by omega]; decide), yl_104 hc C1, if_neg (show ¬ tk_k c n i = 104 by omega), yl_105 hc C1, if_neg (show ¬ tk_k c n i = 105 by omega), yl_106 hc C1, if_neg (show ¬ tk_k c n i = 106 by omega), yl_107 hc C1, if_neg (show ¬ tk_k c n i = 107 by omega), yl_108 hc C1, if_neg (show ¬ tk_k c n i = 108 by omega)]
      obtain ⟨v', e, _⟩ := XSref (NF := NF) (f := f) hc C
      have eo : gsX_X6_opened_1 NF 103 v f = xmB (gsX_X6_refuse_1 NF v f) := settF (NF := NF) (f := f) (d := 0) C (by decide) e103 t0 t6 (by simpa using hb)
      rw [eo]
      have eM : (match xmB (gsX_X6_refuse_1 NF v f) with | (r24, v26, f27) => if r24 = 1 then xTail NF (gsX_X6_expression_1 NF v26 f27) else (0, v26, f27)) = xmB (gsX_X6_refuse_1 NF v f) := by
        rw [e, xmB0]
        exact if_neg (by decide)
      rw [eM]
      exact Or.inr (refNO hc h0)
  by_cases e104 : tk_k c n i = 104
  · rw [if_neg e101, if_neg e102, if_neg e103, if_pos e104, yl_101 hc C1, if_neg e101, yl_102 hc C1, if_neg e102, yl_103 hc C1, if_neg e103, yl_104 hc C1, if_pos e104]
    by_cases hb : t / 2 ^ 1 % 2 = 0
    · rw [if_pos (show v1 30 = 0 by rw [t30, show t / 2 % 2 = 0 from hb]; rfl)]
      rcases settPair (NF := NF) (g := g) hc h0 (d := 1) (by decide) (by decide) e104 t0 t6 hb 999 (j := 1700885369) (by decide +kernel) with ⟨v', v1', w1', x, i', k1, k2, k3, k5, k6, kb⟩ | ⟨v', v1', w1', y, k1, k2, k3⟩
      · have k2 : gsY_X11_told_1 NF 1700885369 999 (upd v1 30 1) f1 w1 g = (x, v1', f1, w1', g) := k2
        rw [k1, k2]
        obtain ⟨l1, l2⟩ := LR.sett1 (x := x) kb h' hb k3 k5 k6
        exact tailOK hc l1 (by omega)
      · have k2 : gsY_X11_told_1 NF 1700885369 999 (upd v1 30 1) f1 w1 g = (y, v1', f1, w1', g) := k2
        rw [k1, k2]
        obtain ⟨s, j, q1, q2, q3, q4, q5, q6⟩ := k3.lf
        exact Or.inr (tailNO (v1 := upd v1' 19 y) ⟨s, j, q1, q2, q3, (pk_un (by decide)).trans q4, q5, (pk_un (by decide)).trans q6⟩)
    · have hb1 : t / 2 % 2 = 1 := by
        have q : ¬ t / 2 % 2 = 0 := hb
        omega
      rw [if_neg (show ¬ v1 30 = 0 by rw [t30, hb1]; decide), yl_105 hc C1, if_neg (show ¬ tk_k c n i = 105 by omega), yl_106 hc C1, if_neg (show ¬ tk_k c n i = 106 by omega), yl_107 hc C1, if_neg (show ¬ tk_k c n i = 107 by omega), yl_108 hc C1, if_neg (show ¬ tk_k c n i = 108 by omega), refO 1 (by decide) (by decide) e104 hb]
      exact Or.inr (refNO hc h0)
  by_cases e105 : tk_k c n i = 105
  · rw [if_neg e101, if_neg e102, if_neg e103, if_neg e104, if_pos e105, yl_101 hc C1, if_neg e101, yl_102 hc C1, if_neg e102, yl_103 hc C1, if_neg e103, yl_104 hc C1, if_neg e104, yl_105 hc C1, if_pos e105]
    by_cases hb : t / 2 ^ 2 % 2 = 0
    · rw [if_pos (show v1 31 = 0 by rw [t31, show t / 4 % 2 = 0 from hb]; rfl)]
      rcases settPair (NF := NF) (g := g) hc h0 (d := 2) (by decide) (by decide) e105 t0 t6 hb 999 (j := 1651469428) (by decide +kernel) with ⟨v', v1', w1', x, i', k1, k2, k3, k5, k6, kb⟩ | ⟨v', v1', w1', y, k1, k2, k3⟩
      · have k2 : gsY_X11_told_1 NF 1651469428 999 (upd v1 31 1) f1 w1 g = (x, v1', f1, w1', g) := k2
        rw [k1, k2]
        obtain ⟨l1, l2⟩ := LR.sett2 (x := x) kb h' hb k3 k5 k6
        exact tailOK hc l1 (by omega)
      · have k2 : gsY_X11_told_1 NF 1651469428 999 (upd v1 31 1) f1 w1 g = (y, v1', f1, w1', g) := k2
        rw [k1, k2]
        obtain ⟨s, j, q1, q2, q3, q4, q5, q6⟩ := k3.lf
        exact Or.inr (tailNO (v1 := upd v1' 20 y) ⟨s, j, q1, q2, q3, (pk_un (by decide)).trans q4, q5, (pk_un (by decide)).trans q6⟩)
    · have hb1 : t / 4 % 2 = 1 := by
        have q : ¬ t / 4 % 2 = 0 := hb
        omega
      rw [if_neg (show ¬ v1 31 = 0 by rw [t31, hb1]; decide), yl_106 hc C1, if_neg (show ¬ tk_k c n i = 106 by omega), yl_107 hc C1, if_neg (show ¬ tk_k c n i = 107 by omega), yl_108 hc C1, if_neg (show ¬ tk_k c n i = 108 by omega), refO 2 (by decide) (by decide) e105 hb]
      exact Or.inr (refNO hc h0)
  by_cases e106 : tk_k c n i = 106
  · rw [if_neg e101, if_neg e102, if_neg e103, if_neg e104, if_neg e105, if_pos e106, yl_101 hc C1, if_neg e101, yl_102 hc C1, if_neg e102, yl_103 hc C1, if_neg e103, yl_104 hc C1, if_neg e104, yl_105 hc C1, if_neg e105, yl_106 hc C1, if_pos e106]
    by_cases hb : t / 2 ^ 3 % 2 = 0
    · rw [if_pos (show v1 32 = 0 by rw [t32, show t / 8 % 2 = 0 from hb]; rfl)]
      rcases settPair (NF := NF) (g := g) hc h0 (d := 3) (by decide) (by decide) e106 t0 t6 hb 99 (j := 1818848101) (by decide +kernel) with ⟨v', v1', w1', x, i', k1, k2, k3, k5, k6, kb⟩ | ⟨v', v1', w1', y, k1, k2, k3⟩
      · have k2 : gsY_X11_told_1 NF 1818848101 99 (upd v1 32 1) f1 w1 g = (x, v1', f1, w1', g) := k2
        rw [k1, k2]
        obtain ⟨l1, l2⟩ := LR.sett3 (x := x) kb h' hb k3 k5 k6
        exact tailOK hc l1 (by omega)
      · have k2 : gsY_X11_told_1 NF 1818848101 99 (upd v1 32 1) f1 w1 g = (y, v1', f1, w1', g) := k2
        rw [k1, k2]
        obtain ⟨s, j, q1, q2, q3, q4, q5, q6⟩ := k3.lf
        exact Or.inr (tailNO (v1 := upd v1' 21 y) ⟨s, j, q1, q2, q3, (pk_un (by decide)).trans q4, q5, (pk_un (by decide)).trans q6⟩)
    · have hb1 : t / 8 % 2 = 1 := by
        have q : ¬ t / 8 % 2 = 0 := hb
        omega
      rw [if_neg (show ¬ v1 32 = 0 by rw [t32, hb1]; decide), yl_107 hc C1, if_neg (show ¬ tk_k c n i = 107 by omega), yl_108 hc C1, if_neg (show ¬ tk_k c n i = 108 by omega), refO 3 (by decide) (by decide) e106 hb]
      exact Or.inr (refNO hc h0)
  by_cases e107 : tk_k c n i = 107
  · rw [if_neg e101, if_neg e102, if_neg e103, if_neg e104, if_neg e105, if_neg e106, if_pos e107, yl_101 hc C1, if_neg e101, yl_102 hc C1, if_neg e102, yl_103 hc C1, if_neg e103, yl_104 hc C1, if_neg e104, yl_105 hc C1, if_neg e105, yl_106 hc C1, if_neg e106, yl_107 hc C1, if_pos e107]
    by_cases hb : t / 2 ^ 4 % 2 = 0
    · rw [if_pos (show v1 33 = 0 by rw [t33, show t / 16 % 2 = 0 from hb]; rfl)]
      rcases settPair (NF := NF) (g := g) hc h0 (d := 4) (by decide) (by decide) e107 t0 t6 hb 100 (j := 1918986606) (by decide +kernel) with ⟨v', v1', w1', x, i', k1, k2, k3, k5, k6, kb⟩ | ⟨v', v1', w1', y, k1, k2, k3⟩
      · have k2 : gsY_X11_told_1 NF 1918986606 100 (upd v1 33 1) f1 w1 g = (x, v1', f1, w1', g) := k2
        rw [k1, k2]
        obtain ⟨l1, l2⟩ := LR.sett4 (x := x) kb h' hb k3 k5 k6
        exact tailOK hc l1 (by omega)
      · have k2 : gsY_X11_told_1 NF 1918986606 100 (upd v1 33 1) f1 w1 g = (y, v1', f1, w1', g) := k2
        rw [k1, k2]
        obtain ⟨s, j, q1, q2, q3, q4, q5, q6⟩ := k3.lf
        exact Or.inr (tailNO (v1 := upd v1' 22 y) ⟨s, j, q1, q2, q3, (pk_un (by decide)).trans q4, q5, (pk_un (by decide)).trans q6⟩)
    · have hb1 : t / 16 % 2 = 1 := by
        have q : ¬ t / 16 % 2 = 0 := hb
        omega
      rw [if_neg (show ¬ v1 33 = 0 by rw [t33, hb1]; decide), yl_108 hc C1, if_neg (show ¬ tk_k c n i = 108 by omega), refO 4 (by decide) (by decide) e107 hb]
      exact Or.inr (refNO hc h0)
  by_cases e108 : tk_k c n i = 108
  · rw [if_neg e101, if_neg e102, if_neg e103, if_neg e104, if_neg e105, if_neg e106, if_neg e107, if_pos e108, yl_101 hc C1, if_neg e101, yl_102 hc C1, if_neg e102, yl_103 hc C1, if_neg e103, yl_104 hc C1, if_neg e104, yl_105 hc C1, if_neg e105, yl_106 hc C1, if_neg e106, yl_107 hc C1, if_neg e107, yl_108 hc C1, if_pos e108]
    by_cases hb : t / 2 ^ 5 % 2 = 0
    · rw [if_pos (show v1 34 = 0 by rw [t34, show t / 32 % 2 = 0 from hb]; rfl)]
      rcases settPair (NF := NF) (g := g) hc h0 (d := 5) (by decide) (by decide) e108 t0 t6 hb 999 (j := 1685217655) (by decide +kernel) with ⟨v', v1', w1', x, i', k1, k2, k3, k5, k6, kb⟩ | ⟨v', v1', w1', y, k1, k2, k3⟩
      · have k2 : gsY_X11_told_1 NF 1685217655 999 (upd v1 34 1) f1 w1 g = (x, v1', f1, w1', g) := k2
        rw [k1, k2]
        obtain ⟨l1, l2⟩ := LR.sett5 (x := x) kb h' hb k3 k5 k6
        exact tailOK hc l1 (by omega)
      · have k2 : gsY_X11_told_1 NF 1685217655 999 (upd v1 34 1) f1 w1 g = (y, v1', f1, w1', g) := k2
        rw [k1, k2]
        obtain ⟨s, j, q1, q2, q3, q4, q5, q6⟩ := k3.lf
        exact Or.inr (tailNO (v1 := upd v1' 23 y) ⟨s, j, q1, q2, q3, (pk_un (by decide)).trans q4, q5, (pk_un (by decide)).trans q6⟩)
    · have hb1 : t / 32 % 2 = 1 := by
        have q : ¬ t / 32 % 2 = 0 := hb
        omega
      rw [if_neg (show ¬ v1 34 = 0 by rw [t34, hb1]; decide), refO 5 (by decide) (by decide) e108 hb]
      exact Or.inr (refNO hc h0)
  rw [if_neg e101, if_neg e102, if_neg e103, if_neg e104, if_neg e105, if_neg e106, if_neg e107, if_neg e108, yl_101 hc C1, if_neg e101, yl_102 hc C1, if_neg e102, yl_103 hc C1, if_neg e103, yl_104 hc C1, if_neg e104, yl_105 hc C1, if_neg e105, yl_106 hc C1, if_neg e106, yl_107 hc C1, if_neg e107, yl_108 hc C1, if_neg e108]
  exact Or.inr (refNO hc h0)
end
