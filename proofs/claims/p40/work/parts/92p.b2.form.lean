section
variable {NF : Nat}
theorem XS.start {c : Nat → Nat} {n i : Nat} {v : Nat → Int32} {f : Nat → Nat → Int32} (C : CX c n i v) (h16 : v 16 = 0) (h17 : v 17 = 0) : XS c n v f v f i [] 0 := ⟨C, fun _ _ _ _ _ _ _ => rfl, fun _ _ _ => rfl, h16, h17, fun j hj => absurd hj (by simp)⟩
theorem YR.start {c : Nat → Nat} {n i : Nat} {v v2 : Nat → Int32} {f : Nat → Nat → Int32} {w : Int64} (C : CY c n i v2 w) (h : ∀ k, k ≠ 3 → k ≠ 5 → k ≠ 6 → k ≠ 7 → v2 k = v k) (h11 : v 11 = 0) : YR c n (upd v 15 1) f (upd (upd (upd (upd (upd v2 15 1) 8 0) 10 0) 14 0) 13 0) f w i [] [] 0 := by
  obtain ⟨c1, c2, c3, c4, c5⟩ := C
  have U : ∀ k, k ≠ 15 → k ≠ 8 → k ≠ 10 → k ≠ 14 → k ≠ 13 → upd (upd (upd (upd (upd v2 15 1) 8 0) 10 0) 14 0) 13 0 k = v2 k := fun k a b d e z => (pk_un z).trans ((pk_un e).trans ((pk_un d).trans ((pk_un b).trans (pk_un a))))
  refine ⟨⟨(U 6 (by decide) (by decide) (by decide) (by decide) (by decide)).trans c1, (U 5 (by decide) (by decide) (by decide) (by decide) (by decide)).trans c2, fun z => (U 3 (by decide) (by decide) (by decide) (by decide) (by decide)).trans (c3 z), fun z => (U 7 (by decide) (by decide) (by decide) (by decide) (by decide)).trans (c4 z), c5⟩, fun k k3 k5 k6 k7 k8 k10 k11 k13 k14 => ?_, fun _ _ _ _ => rfl, (pk_un (by decide)).trans ((pk_un (by decide)).trans ((pk_un (by decide)).trans pk_us)), (pk_un (by decide)).trans ((pk_un (by decide)).trans pk_us), (U 11 (by decide) (by decide) (by decide) (by decide) (by decide)).trans ((h 11 (by decide) (by decide) (by decide) (by decide)).trans h11), pk_us, (pk_un (by decide)).trans pk_us, fun j hj => absurd hj (by simp), trivial⟩
  by_cases e : k = 15
  · rw [e, pk_un (by decide), pk_un (by decide), pk_un (by decide), pk_un (by decide), pk_us, pk_us]
  · rw [U k e k8 k10 k14 k13, pk_un e, h k k3 k5 k6 k7]
theorem formPair {c : Nat → Nat} {n i : Nat} {v v1 : Nat → Int32} {f f1 : Nat → Nat → Int32} {w1 : Int64} {g : Nat → Int64} (hc : ∀ k, k < n → c k < 256) (T : TX c n v f) (T1 : TY c n v1 f1) (C : CX c n (i + 1) v) (h16 : v 16 = 0) (h17 : v 17 = 0) (C1 : CY c n i v1 w1) (hk1 : tk_k c n i ≠ 1) (hf : v1 1 = 0) (h11 : v1 11 = 0) :
    (∃ (v' : Nat → Int32) (f' : Nat → Nat → Int32) (v2 : Nat → Int32) (f2 : Nat → Nat → Int32) (w2 : Int64) (j own : Nat) (out : List (Nat × Int32)), gsX_X6_expression_1 NF v f = (1, v', f') ∧ gsY_X11_formula_1 NF v1 f1 w1 g = (v2, f2, w2, g) ∧ XS c n v f v' f' j out own ∧ YR c n (upd v1 15 1) f1 v2 f2 w2 j out [] own ∧ own ≤ 30 ∧ out.length ≤ 270 ∧ WFo out own) ∨
    (∃ (v' : Nat → Int32) (f' : Nat → Nat → Int32) (v2 : Nat → Int32) (f2 : Nat → Nat → Int32) (w2 : Int64) (s j : Nat), gsX_X6_expression_1 NF v f = (0, v', f') ∧ gsY_X11_formula_1 NF v1 f1 w1 g = (v2, f2, w2, g) ∧ XF c n v f v' f' s j ∧ YF c n (upd v1 15 1) f1 v2 f2 s j ∧ 0 < s ∧ s < 100) := by
  obtain ⟨v2, w2, e2, c2, r2⟩ := tokY (NF := NF) (i := i) (w := w1) (g := g) T1 (C1.2.2.1 hk1)
  have T2 : TY c n (upd v1 15 1) f1 := T1.upd (by decide)
  have h0 : upd v1 15 1 1 = 0 := (pk_un (by decide)).trans hf
  have y2 := YR.start (f := f1) c2 r2 h11
  have fin : ∀ (m : Nat) (res : Nat × Nat × List (Nat × Int32) × Nat), sy (tk_k c n) (tk_n c n) m true (i + 1) [] [] 0 = some res → YFIN c n (upd v1 15 1) f1 g (gsY_X11_formula_1 NF v1 f1 w1 g) res := fun m res hs => by
    have e : gsY_X11_formula_1 NF v1 f1 w1 g = (match gsY_X11_unit_1 NF (upd (upd (upd (upd (upd v2 15 1) 8 0) 10 0) 14 0) 13 0) f1 w2 g with | (v12, f13, w14, g15) => gsY_X11_formula_1_L20 NF (4294967296 + NF) 1 v12 f13 w14 g15) := by
      unfold gsY_X11_formula_1
      rw [e2]
    rw [e]
    unfold gsY_X11_unit_1
    rcases yUnit (NF := NF) (g := g) T2 hc h0 (4294967296 + NF) m (i + 1) 0 [] [] _ f1 w2 y2 (by decide) (by decide) (by decide) (by omega) hs with ⟨m', i', o', s', w', a1, a2, a3, b1, b2, b3, b4, b5, b6, b7, b8⟩ | ⟨s, j, a1, a2, a3, b1, b2, b3, b4, b5⟩
    · simp only [b1]
      exact yLoop (NF := NF) T2 hc h0 (4294967296 + NF) m' i' w' o' s' a1 a2 a3 b2 b5 b6 b8 (by omega) b3
    · simp only [b4]
      obtain ⟨M, hM⟩ : ∃ M, 4294967296 + NF = M + 1 := ⟨4294967295 + NF, by omega⟩
      rw [hM]
      exact Or.inr ⟨s, j, a1, a2, a3, b1, b2, b3, yL_f b5.1 b2 b3 M, b5⟩
  rcases s_all0 (NF := NF) T hc v f (i + 1) [] [] 0 (XS.start C h16 h17) rfl (Or.inl rfl) (fun z => absurd z (by decide)) (by decide) (by decide) with ⟨v3, f3, i3, o3, P, w3, e3, x3, ⟨k3, s3⟩, p3, j3, r3, a3, b3, q3⟩ | ⟨v3, f3, s, j, e3, x3, s0, s2, k3, s3⟩
  · have hk3 := tk_lt hc i3
    have pP : ∀ a ∈ P, a ≠ 40 := fun a ha => (p3 a ha).1
    have hB : fHasB P = false := by
      apply Bool.eq_false_iff.mpr
      intro z
      simp only [fHasB, List.contains_eq_mem, decide_eq_true_eq] at z
      exact pP 40 z rfl
    rw [List.append_nil] at s3 r3 q3
    have hs := (s3 1).trans (sy_stN (m := 0) (own := w3) (out := o3) (fun z => z.2 ⟨(nJ_0 _ hk3 j3 z.1).2, r3 (by decide) (nJ_0 _ hk3 j3 z.1).1⟩) hB)
    rw [fCls0_N o3 hB] at hs
    rw [fNb_P pP] at q3
    have hwf := sy_wf _ _ _ _ _ _ hs (fun a ha => absurd ha (List.not_mem_nil)) rfl (Nat.zero_le _) (fun x hx => absurd hx (List.not_mem_nil))
    rcases fin _ _ hs with ⟨j, out', own', v', f', w', z1, z2, z3⟩ | ⟨s, j, a1, a2, a3, b1, b2, b3, b4, b5⟩
    · injection z1 with z0 z1
      injection z1 with z1 z4
      injection z4 with z4 z5
      subst z1 z4 z5
      exact Or.inl ⟨v3, f3, v', f', w', _, _, _, e3, z2, x3, z3, b3, by rw [List.length_append, fMp_len]; omega, hwf⟩
    · injection b1 with z0 z1
      omega
  · have hs := s3 0
    rcases fin _ _ hs with ⟨j', out', own', v', f', w', z1, z2, z3⟩ | ⟨s', j', a1, a2, a4, b1, b2, b3, b4, b5⟩
    · injection z1 with z0 z1
      omega
    · injection b1 with z0 z1
      injection z1 with z1 z4
      subst z0 z1
      exact Or.inr ⟨v3, f3, a1, a2, a4, _, _, e3, b4, x3, b5, s0, b3⟩
end
