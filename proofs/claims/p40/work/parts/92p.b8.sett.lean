section
variable {NF : Nat}
theorem setX {d : Nat} (h1 : 1 ≤ d) (h2 : d ≤ 5) {x : Int32} {v : Nat → Int32} {f : Nat → Nat → Int32} : gsX_X7_set_1 NF (nI (103 + d)) x v f = (upd v (10 + d) x, f) := by
  rcases (show d = 1 ∨ d = 2 ∨ d = 3 ∨ d = 4 ∨ d = 5 by omega) with e | e | e | e | e <;> (subst e; rfl)
theorem upS {v : Nat → Int32} {k : Nat} {x : Int32} (k2 : k ≠ 2) (k3 : k ≠ 3) (k4 : k ≠ 4) (k5 : k ≠ 5) {c : Nat → Nat} {n i : Nat} (h : CX c n i v) : CX c n i (upd v k x) := ⟨(pk_un k2.symm).trans h.1, (pk_un k3.symm).trans h.2.1, (pk_un k4.symm).trans h.2.2.1, fun z => (pk_un k5.symm).trans (h.2.2.2 z)⟩
theorem upT {v : Nat → Int32} {w : Int64} {k : Nat} {x : Int32} (k3 : k ≠ 3) (k5 : k ≠ 5) (k6 : k ≠ 6) (k7 : k ≠ 7) {c : Nat → Nat} {n i : Nat} (h : CY c n i v w) : CY c n i (upd v k x) w := ⟨(pk_un k6.symm).trans h.1, (pk_un k5.symm).trans h.2.1, fun z => (pk_un k3.symm).trans (h.2.2.1 z), fun z => (pk_un k7.symm).trans (h.2.2.2.1 z), h.2.2.2.2⟩
theorem TP.upX {c : Nat → Nat} {n i k : Nat} {x : Int32} {v : Nat → Int32} {f : Nat → Nat → Int32} {v1 : Nat → Int32} {f1 : Nat → Nat → Int32} {w1 : Int64} (h : TP c n i v f v1 f1 w1) (hk : 6 ≤ k) : TP c n i (upd v k x) f v1 f1 w1 := ⟨h.1.upd (by omega), h.2.1, upS (by omega) (by omega) (by omega) (by omega) h.2.2.1, h.2.2.2⟩
theorem TP.upY {c : Nat → Nat} {n i k : Nat} {x : Int32} {v : Nat → Int32} {f : Nat → Nat → Int32} {v1 : Nat → Int32} {f1 : Nat → Nat → Int32} {w1 : Int64} (h : TP c n i v f v1 f1 w1) (hk : 8 ≤ k) : TP c n i v f (upd v1 k x) f1 w1 := ⟨h.1, h.2.1.upd (by omega), h.2.2.1, upT (by omega) (by omega) (by omega) (by omega) h.2.2.2.1, (pk_un (by omega)).trans h.2.2.2.2⟩
theorem TP.f {c : Nat → Nat} {n i : Nat} {v : Nat → Int32} {f f' : Nat → Nat → Int32} {v1 : Nat → Int32} {f1 f1' : Nat → Nat → Int32} {w1 : Int64} (h : TP c n i v f v1 f1 w1) (e : f' 0 = f 0) (e1 : f1' 0 = f1 0) : TP c n i v f' v1 f1' w1 := ⟨h.1.of rfl e, h.2.1.of rfl e1, h.2.2⟩
theorem settPair {c : Nat → Nat} {n i : Nat} {v : Nat → Int32} {f : Nat → Nat → Int32} {v1 : Nat → Int32} {f1 : Nat → Nat → Int32} {w1 : Int64} {g : Nat → Int64} (hc : ∀ k, k < n → c k < 256) (h : TP c n i v f v1 f1 w1) {t d : Nat} (h1 : 1 ≤ d) (h2 : d ≤ 5) (hk : tk_k c n i = 103 + d) (ht : t < 64) (h6 : v 6 = nI t) (hb : t / 2 ^ d % 2 = 0) (mo : Int32) {j : Int64} (hj : j = wC (103 + d)) :
    (∃ (v' v1' : Nat → Int32) (w1' : Int64) (x : Int32) (i' : Nat), gsX_X6_settingLine_1 NF mo v f = (1, upd v' (10 + d) x, f) ∧ gsY_X11_told_1 NF j mo (upd v1 (29 + d) 1) f1 w1 g = (x, v1', f1, w1', g) ∧ TP c n i' v' f v1' f1 w1' ∧ X4 (upd v 6 (nI (t + 2 ^ d))) v' ∧ Y4 (upd v1 (29 + d) 1) v1' ∧ (0 ≤ x ∧ x ≤ mo)) ∨
    (∃ (v' v1' : Nat → Int32) (w1' : Int64) (y : Int32), gsX_X6_settingLine_1 NF mo v f = (0, v', f) ∧ gsY_X11_told_1 NF j mo (upd v1 (29 + d) 1) f1 w1 g = (y, v1', f1, w1', g) ∧ FP c n (upd v 6 (nI (t + 2 ^ d))) v' (upd v1 (29 + d) 1) v1') := by
  have hkl := tk_lt hc i
  obtain ⟨o1, o2⟩ := opn t ht d (by omega)
  obtain ⟨o2, _⟩ := o2 hb
  have h' : TP c n i (upd v 6 (nI (t + 2 ^ d))) f (upd v1 (29 + d) 1) f1 w1 := (h.upX (by decide)).upY (by omega)
  obtain ⟨va, ea, _, _⟩ := advX (NF := NF) (i := i) h'.1 h'.2.2.1.2.2.1
  have eL : gsX_X6_labelled_1 NF (nI (103 + d)) mo (upd v 6 (nI (t + 2 ^ d))) f = gsX_X6_numbered_1 NF mo va f := by
    simp only [gsX_X6_labelled_1, h'.2.2.1.1]
    rw [if_pos (by rw [hk]), ea]
  have eS : gsX_X6_settingLine_1 NF mo v f = (match gsX_X6_labelled_1 NF (nI (103 + d)) mo (upd v 6 (nI (t + 2 ^ d))) f with | (r6, v8, f9) => if 0 ≤ r6 then ((1 : Int32), upd v8 (10 + d) r6, f9) else (0, v8, f9)) := by
    rw [eL]
    simp only [gsX_X6_settingLine_1, gsX_X6_opened_1, h.2.2.1.1, h6, hk]
    rw [if_pos (o1.mpr hb), o2, ea]
    simp only [ite11, setX h1 h2]
    all_goals rfl
  rw [eS]
  rcases labPair (NF := NF) (g := g) hc h' (k := 103 + d) (by omega) (by omega) hj mo with ⟨v2, v3, w3, x, b1, b2, b3, b4, b5, b6⟩ | ⟨v2, v3, w3, y, b1, b2, b3⟩
  · rw [b1]
    exact Or.inl ⟨v2, v3, w3, x, i + 2, if_pos b4.1, b2, b3, b5, b6, b4⟩
  · rw [b1]
    exact Or.inr ⟨v2, v3, w3, y, if_neg (by decide), b2, b3⟩
theorem settF {c : Nat → Nat} {n i : Nat} {v : Nat → Int32} {f : Nat → Nat → Int32} (C : CX c n i v) {t d : Nat} (h2 : d ≤ 5) (hk : tk_k c n i = 103 + d) (ht : t < 64) (h6 : v 6 = nI t) (hb : ¬ t / 2 ^ d % 2 = 0) : gsX_X6_opened_1 NF (nI (103 + d)) v f = xmB (gsX_X6_refuse_1 NF v f) := by
  obtain ⟨o1, o2⟩ := opn t ht d (by omega)
  simp only [gsX_X6_opened_1, h6]
  rw [if_neg (fun z => hb (o1.mp z))]
  rfl
def xTail (NF : Nat) (q : Int32 × (Nat → Int32) × (Nat → Nat → Int32)) : Int32 × (Nat → Int32) × (Nat → Nat → Int32) :=
  match q with
  | (r, v, f) => if r = 1 then (match gsX_X6_closing_1 NF v f with | (r7, v9, f10) => if r7 = 1 then (1, v9, f10) else (0, v9, f10)) else (0, v, f)
theorem tailLR {c : Nat → Nat} {n i a b t : Nat} {v : Nat → Int32} {f : Nat → Nat → Int32} {v1 : Nat → Int32} {f1 : Nat → Nat → Int32} {w1 : Int64} {g : Nat → Int64} (hc : ∀ k, k < n → c k < 256) (h : LR c n v f v1 f1 w1 g i a b t) :
    (∃ (v' v1' : Nat → Int32) (w1' : Int64), xTail NF (1, v, f) = (1, v', f) ∧ yTail NF v1 f1 w1 g = (v1', f1, w1', g) ∧ LR c n v' f v1' f1 w1' g (i + 1) a b t) ∨
    (∃ (v' v1' : Nat → Int32), xTail NF (1, v, f) = (0, v', f) ∧ yTail NF v1 f1 w1 g = (v1', f1, w1, g) ∧ LF c n v' v1') := by
  rcases closePair (NF := NF) (g := g) hc h.1 with ⟨v', v1', w1', e1, e2, e3, e4, e5⟩ | ⟨v', v1', e1, e2, e3⟩
  · refine Or.inl ⟨v', v1', w1', ?_, e2, h.go e4 e5 e3⟩
    simp only [xTail, e1, ite11, if_true]
  · refine Or.inr ⟨v', v1', ?_, e2, e3.lf⟩
    simp only [xTail, e1, ite01, if_true]
theorem LR.man {c : Nat → Nat} {n i a b t p : Nat} {v : Nat → Int32} {f : Nat → Nat → Int32} {v1 : Nat → Int32} {f1 : Nat → Nat → Int32} {w1 : Int64} {g : Nat → Int64} {x y z : Int32} {wn : Int64} (h : LR c n v f v1 f1 w1 g i a b t) (ha : a < 6) (hn : NMx c n (nI p) wn) (hB : MB x y z) : LR c n (upd v 9 (nI (a + 1))) (upd2 (upd2 f 7 (upd (f 7) a (nI p))) 1 (upd (upd (upd (f 1) a x) (6 + a) y) (12 + a) z)) (upd v1 17 (nI (a + 1))) (upd2 (upd2 (upd2 f1 9 (upd (f1 9) a x)) 10 (upd (f1 10) a y)) 11 (upd (f1 11) a z)) w1 (vp_updL g (0 + a) wn) i (a + 1) b t := by
  obtain ⟨h0, ⟨p7, p8, p2⟩, ⟨a1, a2, a3⟩, ⟨b1, b2, b3⟩, m, d, n1, n2, ⟨t0, t6, t15, t30, t31, t32, t33, t34⟩, ⟨s1, s2, s3, s4, s5, s6⟩, o1, o2⟩ := h
  refine ⟨((h0.upX (by decide)).upY (by decide)).f rfl rfl, ⟨(pk_un (by decide)).trans p7, (pk_un (by decide)).trans p8, (pk_un (by decide)).trans p2⟩, ⟨pk_us, pk_us, by omega⟩, ⟨(pk_un (by decide)).trans b1, (pk_un (by decide)).trans b2, b3⟩, fun j hj => ?_, fun j hj => d j hj, fun j hj => ?_, fun j hj => ?_, ⟨t0, (pk_un (by decide)).trans t6, (pk_un (by decide)).trans t15, (pk_un (by decide)).trans t30, (pk_un (by decide)).trans t31, (pk_un (by decide)).trans t32, (pk_un (by decide)).trans t33, (pk_un (by decide)).trans t34⟩, ⟨s1, s2, s3, s4, s5, s6⟩, o1, o2⟩
  · generalize hU : upd (upd (upd (f 1) a x) (6 + a) y) (12 + a) z = U
    show U j = upd (f1 9) a x j ∧ U (6 + j) = upd (f1 10) a y j ∧ U (12 + j) = upd (f1 11) a z j ∧ MB (U j) (U (6 + j)) (U (12 + j))
    by_cases e : j = a
    · subst e
      have u1 : U j = x := by rw [← hU, pk_un (by omega), pk_un (by omega), pk_us]
      have u2 : U (6 + j) = y := by rw [← hU, pk_un (by omega), pk_us]
      have u3 : U (12 + j) = z := by rw [← hU, pk_us]
      exact ⟨by rw [u1, pk_us], by rw [u2, pk_us], by rw [u3, pk_us], by rw [u1, u2, u3]; exact hB⟩
    · obtain ⟨q1, q2, q3, q4⟩ := m j (by omega)
      have u1 : U j = f 1 j := by rw [← hU, pk_un (by omega), pk_un (by omega), pk_un e]
      have u2 : U (6 + j) = f 1 (6 + j) := by rw [← hU, pk_un (by omega), pk_un (by omega), pk_un (by omega)]
      have u3 : U (12 + j) = f 1 (12 + j) := by rw [← hU, pk_un (by omega), pk_un (by omega), pk_un (by omega)]
      exact ⟨by rw [u1, pk_un e]; exact q1, by rw [u2, pk_un e]; exact q2, by rw [u3, pk_un e]; exact q3, by rw [u1, u2, u3]; exact q4⟩
  · show NMx c n (upd (f 7) a (nI p) j) (vp_updL g (0 + a) wn (0 + j))
    by_cases e : j = a
    · rw [e, pk_us, pk_uLs]; exact hn
    · rw [pk_un e, pk_uLn (by omega)]; exact n1 j (by omega)
  · show NMx c n (f 8 j) (vp_updL g (0 + a) wn (6 + j))
    rw [pk_uLn (by omega)]; exact n2 j hj
theorem LR.coat {c : Nat → Nat} {n i a b t p : Nat} {v : Nat → Int32} {f : Nat → Nat → Int32} {v1 : Nat → Int32} {f1 : Nat → Nat → Int32} {w1 : Int64} {g : Nat → Int64} {x y z u : Int32} {wn : Int64} (h : LR c n v f v1 f1 w1 g i a b t) (ha : b < 6) (hn : NMx c n (nI p) wn) (hB : CB x y z u) : LR c n (upd v 10 (nI (b + 1))) (upd2 (upd2 f 8 (upd (f 8) b (nI p))) 2 (upd (upd (upd (upd (f 2) b x) (6 + b) y) (12 + b) z) (18 + b) u)) (upd v1 18 (nI (b + 1))) (upd2 (upd2 (upd2 (upd2 f1 12 (upd (f1 12) b x)) 13 (upd (f1 13) b y)) 14 (upd (f1 14) b z)) 15 (upd (f1 15) b u)) w1 (vp_updL g (6 + b) wn) i a (b + 1) t := by
  obtain ⟨h0, ⟨p7, p8, p2⟩, ⟨a1, a2, a3⟩, ⟨b1, b2, b3⟩, m, d, n1, n2, ⟨t0, t6, t15, t30, t31, t32, t33, t34⟩, ⟨s1, s2, s3, s4, s5, s6⟩, o1, o2⟩ := h
  refine ⟨((h0.upX (by decide)).upY (by decide)).f rfl rfl, ⟨(pk_un (by decide)).trans p7, (pk_un (by decide)).trans p8, (pk_un (by decide)).trans p2⟩, ⟨(pk_un (by decide)).trans a1, (pk_un (by decide)).trans a2, a3⟩, ⟨pk_us, pk_us, by omega⟩, fun j hj => m j hj, fun j hj => ?_, fun j hj => ?_, fun j hj => ?_, ⟨t0, (pk_un (by decide)).trans t6, (pk_un (by decide)).trans t15, (pk_un (by decide)).trans t30, (pk_un (by decide)).trans t31, (pk_un (by decide)).trans t32, (pk_un (by decide)).trans t33, (pk_un (by decide)).trans t34⟩, ⟨s1, s2, s3, s4, s5, s6⟩, o1, o2⟩
  · generalize hU : upd (upd (upd (upd (f 2) b x) (6 + b) y) (12 + b) z) (18 + b) u = U
    show U j = upd (f1 12) b x j ∧ U (6 + j) = upd (f1 13) b y j ∧ U (12 + j) = upd (f1 14) b z j ∧ U (18 + j) = upd (f1 15) b u j ∧ CB (U j) (U (6 + j)) (U (12 + j)) (U (18 + j))
    by_cases e : j = b
    · subst e
      have u1 : U j = x := by rw [← hU, pk_un (by omega), pk_un (by omega), pk_un (by omega), pk_us]
      have u2 : U (6 + j) = y := by rw [← hU, pk_un (by omega), pk_un (by omega), pk_us]
      have u3 : U (12 + j) = z := by rw [← hU, pk_un (by omega), pk_us]
      have u4 : U (18 + j) = u := by rw [← hU, pk_us]
      exact ⟨by rw [u1, pk_us], by rw [u2, pk_us], by rw [u3, pk_us], by rw [u4, pk_us], by rw [u1, u2, u3, u4]; exact hB⟩
    · obtain ⟨q1, q2, q3, q4, q5⟩ := d j (by omega)
      have u1 : U j = f 2 j := by rw [← hU, pk_un (by omega), pk_un (by omega), pk_un (by omega), pk_un e]
      have u2 : U (6 + j) = f 2 (6 + j) := by rw [← hU, pk_un (by omega), pk_un (by omega), pk_un (by omega), pk_un (by omega)]
      have u3 : U (12 + j) = f 2 (12 + j) := by rw [← hU, pk_un (by omega), pk_un (by omega), pk_un (by omega), pk_un (by omega)]
      have u4 : U (18 + j) = f 2 (18 + j) := by rw [← hU, pk_un (by omega), pk_un (by omega), pk_un (by omega), pk_un (by omega)]
      exact ⟨by rw [u1, pk_un e]; exact q1, by rw [u2, pk_un e]; exact q2, by rw [u3, pk_un e]; exact q3, by rw [u4, pk_un e]; exact q4, by rw [u1, u2, u3, u4]; exact q5⟩
  · show NMx c n (f 7 j) (vp_updL g (6 + b) wn (0 + j))
    rw [pk_uLn (by omega)]; exact n1 j hj
  · show NMx c n (upd (f 8) b (nI p) j) (vp_updL g (6 + b) wn (6 + j))
    by_cases e : j = b
    · rw [e, pk_us, pk_uLs]; exact hn
    · rw [pk_un e, pk_uLn (by omega)]; exact n2 j (by omega)
end
