section
variable {NF : Nat}
theorem yIsN {c : Nat → Nat} {n i : Nat} {v1 : Nat → Int32} {f1 : Nat → Nat → Int32} {w1 : Int64} {g : Nat → Int64} (T1 : TY c n v1 f1) (C1 : CY c n i v1 w1) (hf : v1 1 = 0) (h3 : tk_k c n i = 3) {a base : Nat} (ha : a < 6) (hb : base ≤ 6) : ∀ (fu k : Nat), k ≤ a → a - k + 1 < fu → ((∀ j, k ≤ j → j < a → ¬ g (base + j) = tk_w c n i) → gsY_X11_newName_1_L14 NF (nI base) (nI a) fu (nI k) v1 f1 w1 g = gsY_X11_token_1 NF v1 f1 w1 (vp_updL g (base + a) (tk_w c n i))) ∧ (¬ (∀ j, k ≤ j → j < a → ¬ g (base + j) = tk_w c n i) → gsY_X11_newName_1_L14 NF (nI base) (nI a) fu (nI k) v1 f1 w1 g = (upd (upd v1 1 3) 2 (nI (tk_p c n i)), f1, w1, g)) := by
  have hw : w1 = tk_w c n i := C1.2.2.2.2 (by rw [h3]; rfl)
  intro fu
  induction fu with
  | zero => intro k _ h; exact absurd h (Nat.not_lt_zero _)
  | succ fu ih =>
    intro k hk hf'
    simp only [gsY_X11_newName_1_L14, hf, nI_add, nI_1]
    by_cases e : k < a
    · rw [if_neg (nI_ge e (by omega)), if_pos trivial, nI_clamp (by omega), hw]
      by_cases q : g (base + k) = tk_w c n i
      · rw [if_pos (lgc.mpr q)]
        refine ⟨fun z => absurd q (z k (Nat.le_refl _) e), fun _ => ?_⟩
        have ew : gsY_X11_wrong_1 NF 3 v1 f1 (tk_w c n i) g = (upd (upd v1 1 3) 2 (nI (tk_p c n i)), f1, tk_w c n i, g) := by
          simp only [gsY_X11_wrong_1, hf, C1.1, C1.2.1]
          rw [if_pos (show (0 : Int32) ≤ 0 by decide), if_neg (show ¬ nI (tS (tk_k c n i)) = 3 by rw [h3]; decide)]
        rw [ew]
        obtain ⟨fu, rfl⟩ : ∃ z, fu = z + 1 := ⟨fu - 1, by omega⟩
        show gsY_X11_newName_1_L14 NF (nI base) (nI a) (fu + 1) (nI (k + 1)) (upd (upd v1 1 3) 2 (nI (tk_p c n i))) f1 (tk_w c n i) g = _
        have e3 : upd (upd v1 1 3) 2 (nI (tk_p c n i)) 1 = 3 := (pk_un (by decide)).trans pk_us
        simp only [gsY_X11_newName_1_L14, e3]
        rw [if_neg (show ¬ (3 : Int32) ≤ 0 by decide), if_neg (show ¬ (3 : Int32) = 0 by decide)]
        split <;> rfl
      · rw [if_neg (fun z => q (lgc.mp z))]
        obtain ⟨b1, b2⟩ := ih (k + 1) (by omega) (by omega)
        have hh : (∀ j, k ≤ j → j < a → ¬ g (base + j) = tk_w c n i) ↔ (∀ j, k + 1 ≤ j → j < a → ¬ g (base + j) = tk_w c n i) := by
          constructor
          · intro z j h1 h2; exact z j (by omega) h2
          · intro z j h1 h2
            by_cases y : j = k
            · rw [y]; exact q
            · exact z j (by omega) h2
        rw [hh]
        rw [hw] at b1 b2
        exact ⟨b1, b2⟩
    · rw [if_pos (nI_le (by omega) (by omega)), if_pos (show (0 : Int32) ≤ 0 by decide), nI_clamp (by omega), hw]
      exact ⟨fun _ => rfl, fun z => absurd (fun j h1 h2 => absurd h2 (by omega)) z⟩
theorem yIsN_f {v1 : Nat → Int32} {f1 : Nat → Nat → Int32} {w1 : Int64} {g : Nat → Int64} {s : Nat} (h1 : v1 1 = nI s) (h0 : 0 < s) (hs : s < 100) (p q l : Int32) (fu : Nat) : gsY_X11_newName_1_L80 NF p q (fu + 1) l v1 f1 w1 g = (v1, f1, w1, g) := by
  have e1 : ¬ nI s ≤ 0 := nI_nle h0 (by omega)
  have e2 : ¬ nI s = 0 := nI_ne0 h0 (by omega)
  simp only [gsY_X11_newName_1_L80, h1, if_neg e1, if_neg e2]
  split <;> rfl
theorem namePair1 {c : Nat → Nat} {n i : Nat} {v : Nat → Int32} {f : Nat → Nat → Int32} {v1 : Nat → Int32} {f1 : Nat → Nat → Int32} {w1 : Int64} {g : Nat → Int64} (hc : ∀ k, k < n → c k < 256) (h : TP c n i v f v1 f1 w1) (hk1 : tk_k c n i ≠ 1) {a : Nat} (ha : a < 6) (hn : ∀ j, j < a → NMx c n (f 7 j) (g (0 + j))) :
    (∃ (v' v1' : Nat → Int32) (w1' : Int64) (p : Nat), (match gsX_X9_advance_1 NF v f with | (v3, f4) => gsX_X6_name_1 NF (nI a) v3 f4) = (1, v', upd2 f 7 (upd (f 7) a (nI p))) ∧ gsY_X11_newName_1 NF 0 (nI a) v1 f1 w1 g = (v1', f1, w1', vp_updL g (0 + a) (tk_w c n (i + 1))) ∧ TP c n (i + 2) v' (upd2 f 7 (upd (f 7) a (nI p))) v1' f1 w1' ∧ NMx c n (nI p) (tk_w c n (i + 1)) ∧ X4 v v' ∧ Y4 v1 v1') ∨
    (∃ (v' v1' : Nat → Int32) (w1' : Int64) (g' : Nat → Int64), (match gsX_X9_advance_1 NF v f with | (v3, f4) => gsX_X6_name_1 NF (nI a) v3 f4) = (0, v', f) ∧ gsY_X11_newName_1 NF 0 (nI a) v1 f1 w1 g = (v1', f1, w1', g') ∧ FP c n v v' v1 v1') := by
  obtain ⟨v2, v3, w3, a1, a2, a3, a4, a5⟩ := TP.adv (NF := NF) (g := g) h hk1
  have hk := tk_lt hc (i + 1)
  have a3' := a3
  obtain ⟨T, T1, C, C1, hf⟩ := a3
  have eX : (match gsX_X9_advance_1 NF v f with | (v3, f4) => gsX_X6_name_1 NF (nI a) v3 f4) = gsX_X6_name_1 NF (nI a) v2 f := by rw [a1]
  have eY : gsY_X11_newName_1 NF 0 (nI a) v1 f1 w1 g = (if tk_k c n (i + 1) = 3 then gsY_X11_newName_1_L14 NF (nI 0) (nI a) (4294967296 + NF) (nI 0) v3 f1 w3 g else (match gsY_X11_wrong_1 NF 2 v3 f1 w3 g with | (v70, f71, w72, g73) => gsY_X11_newName_1_L80 NF 0 (nI a) (4294967296 + NF) 0 v70 f71 w72 g73)) := by
    unfold gsY_X11_newName_1
    rw [a2]
    simp only [yIsName hc C1]
    by_cases e : tk_k c n (i + 1) = 3
    · rw [if_pos e, if_pos e, ite11]; rfl
    · rw [if_neg e, if_neg e, ite01]
  rw [eX, eY]
  unfold gsX_X6_name_1
  rw [C.1]
  by_cases e : tk_k c n (i + 1) = 3
  · rw [if_pos e, if_pos (by rw [e]; rfl)]
    obtain ⟨b1, b2⟩ := xName1 (NF := NF) (g := g) T hc C e ha hn (4294967296 + NF) 0 (Nat.zero_le _) (by omega)
    obtain ⟨d1, d2⟩ := yIsN (NF := NF) (g := g) T1 C1 hf e (base := 0) ha (by decide) (4294967296 + NF) 0 (Nat.zero_le _) (by omega)
    by_cases q : ∀ j, 0 ≤ j → j < a → ¬ g (0 + j) = tk_w c n (i + 1)
    · have hS : tS (tK c n (tk_p c n (i + 1))) = 1 := by rw [show tK c n (tk_p c n (i + 1)) = 3 from e]; rfl
      obtain ⟨t1, t2, t3, t4, t5⟩ := tok_word hc hS
      have Tq : TP c n (i + 1) v2 (upd2 f 7 (upd (f 7) a (nI (tk_p c n (i + 1))))) v3 f1 w3 := ⟨T.of rfl rfl, T1, C, C1, hf⟩
      obtain ⟨v4, v5, w5, k1, k2, k3, k4, k5⟩ := TP.adv (NF := NF) (g := vp_updL g (0 + a) (tk_w c n (i + 1))) Tq (by omega)
      refine Or.inl ⟨v4, v5, w5, tk_p c n (i + 1), ?_, ?_, k3, ⟨_, rfl, t1, by rw [← t3]; exact t4, ?_⟩, a4.tr k4, a5.tr k5⟩
      · rw [show gsX_X6_name_1_L2 NF (nI a) (4294967296 + NF) 0 v2 f = _ from b1 q, k1]
      · rw [d1 q, k2]
      · show wvF c (tE c n (tk_p c n (i + 1)) - tk_p c n (i + 1)) (tk_p c n (i + 1)) 0 = _
        rw [t3]
    · refine Or.inr ⟨_, _, w3, g, show gsX_X6_name_1_L2 NF (nI a) (4294967296 + NF) 0 v2 f = _ from b2 q, d2 q, FP.tr a4 a5 ⟨3, i + 1, by decide, by decide, (pk_un (by decide)).trans pk_us, (pk_un (by decide)).trans pk_us, pk_us, pk_us, fun q q2 q3 q4 q5 q7 q8 => (pk_un q8).trans (pk_un q7), fun q q1 q2 q3 q5 q6 q7 => (pk_un q2).trans (pk_un q1)⟩⟩
  · obtain ⟨v4, v5, k1, k2, k3, s, s0, s1, s2⟩ := TP.ref (NF := NF) (g := g) hc a3'
    obtain ⟨M, hM⟩ : ∃ M, 4294967296 + NF = M + 1 := ⟨4294967295 + NF, by omega⟩
    rw [if_neg e, if_neg (nlit 3 3 rfl (by omega) (by decide) e), k1, k2]
    refine Or.inr ⟨v4, v5, w3, g, ite01, ?_, FP.tr a4 a5 k3⟩
    show gsY_X11_newName_1_L80 NF 0 (nI a) (4294967296 + NF) 0 v5 f1 w3 g = _
    rw [hM, yIsN_f s2 s0 s1]
theorem namePair2 {c : Nat → Nat} {n i : Nat} {v : Nat → Int32} {f : Nat → Nat → Int32} {v1 : Nat → Int32} {f1 : Nat → Nat → Int32} {w1 : Int64} {g : Nat → Int64} (hc : ∀ k, k < n → c k < 256) (h : TP c n i v f v1 f1 w1) (hk1 : tk_k c n i ≠ 1) {a : Nat} (ha : a < 6) (hn : ∀ j, j < a → NMx c n (f 8 j) (g (6 + j))) :
    (∃ (v' v1' : Nat → Int32) (w1' : Int64) (p : Nat), (match gsX_X9_advance_1 NF v f with | (v3, f4) => gsX_X6_name_2 NF (nI a) v3 f4) = (1, v', upd2 f 8 (upd (f 8) a (nI p))) ∧ gsY_X11_newName_1 NF 6 (nI a) v1 f1 w1 g = (v1', f1, w1', vp_updL g (6 + a) (tk_w c n (i + 1))) ∧ TP c n (i + 2) v' (upd2 f 8 (upd (f 8) a (nI p))) v1' f1 w1' ∧ NMx c n (nI p) (tk_w c n (i + 1)) ∧ X4 v v' ∧ Y4 v1 v1') ∨
    (∃ (v' v1' : Nat → Int32) (w1' : Int64) (g' : Nat → Int64), (match gsX_X9_advance_1 NF v f with | (v3, f4) => gsX_X6_name_2 NF (nI a) v3 f4) = (0, v', f) ∧ gsY_X11_newName_1 NF 6 (nI a) v1 f1 w1 g = (v1', f1, w1', g') ∧ FP c n v v' v1 v1') := by
  obtain ⟨v2, v3, w3, a1, a2, a3, a4, a5⟩ := TP.adv (NF := NF) (g := g) h hk1
  have hk := tk_lt hc (i + 1)
  have a3' := a3
  obtain ⟨T, T1, C, C1, hf⟩ := a3
  have eX : (match gsX_X9_advance_1 NF v f with | (v3, f4) => gsX_X6_name_2 NF (nI a) v3 f4) = gsX_X6_name_2 NF (nI a) v2 f := by rw [a1]
  have eY : gsY_X11_newName_1 NF 6 (nI a) v1 f1 w1 g = (if tk_k c n (i + 1) = 3 then gsY_X11_newName_1_L14 NF (nI 6) (nI a) (4294967296 + NF) (nI 0) v3 f1 w3 g else (match gsY_X11_wrong_1 NF 2 v3 f1 w3 g with | (v70, f71, w72, g73) => gsY_X11_newName_1_L80 NF 6 (nI a) (4294967296 + NF) 0 v70 f71 w72 g73)) := by
    unfold gsY_X11_newName_1
    rw [a2]
    simp only [yIsName hc C1]
    by_cases e : tk_k c n (i + 1) = 3
    · rw [if_pos e, if_pos e, ite11]; rfl
    · rw [if_neg e, if_neg e, ite01]
  rw [eX, eY]
  unfold gsX_X6_name_2
  rw [C.1]
  by_cases e : tk_k c n (i + 1) = 3
  · rw [if_pos e, if_pos (by rw [e]; rfl)]
    obtain ⟨b1, b2⟩ := xName2 (NF := NF) (g := g) T hc C e ha hn (4294967296 + NF) 0 (Nat.zero_le _) (by omega)
    obtain ⟨d1, d2⟩ := yIsN (NF := NF) (g := g) T1 C1 hf e (base := 6) ha (by decide) (4294967296 + NF) 0 (Nat.zero_le _) (by omega)
    by_cases q : ∀ j, 0 ≤ j → j < a → ¬ g (6 + j) = tk_w c n (i + 1)
    · have hS : tS (tK c n (tk_p c n (i + 1))) = 1 := by rw [show tK c n (tk_p c n (i + 1)) = 3 from e]; rfl
      obtain ⟨t1, t2, t3, t4, t5⟩ := tok_word hc hS
      have Tq : TP c n (i + 1) v2 (upd2 f 8 (upd (f 8) a (nI (tk_p c n (i + 1))))) v3 f1 w3 := ⟨T.of rfl rfl, T1, C, C1, hf⟩
      obtain ⟨v4, v5, w5, k1, k2, k3, k4, k5⟩ := TP.adv (NF := NF) (g := vp_updL g (6 + a) (tk_w c n (i + 1))) Tq (by omega)
      refine Or.inl ⟨v4, v5, w5, tk_p c n (i + 1), ?_, ?_, k3, ⟨_, rfl, t1, by rw [← t3]; exact t4, ?_⟩, a4.tr k4, a5.tr k5⟩
      · rw [show gsX_X6_name_2_L2 NF (nI a) (4294967296 + NF) 0 v2 f = _ from b1 q, k1]
      · rw [d1 q, k2]
      · show wvF c (tE c n (tk_p c n (i + 1)) - tk_p c n (i + 1)) (tk_p c n (i + 1)) 0 = _
        rw [t3]
    · refine Or.inr ⟨_, _, w3, g, show gsX_X6_name_2_L2 NF (nI a) (4294967296 + NF) 0 v2 f = _ from b2 q, d2 q, FP.tr a4 a5 ⟨3, i + 1, by decide, by decide, (pk_un (by decide)).trans pk_us, (pk_un (by decide)).trans pk_us, pk_us, pk_us, fun q q2 q3 q4 q5 q7 q8 => (pk_un q8).trans (pk_un q7), fun q q1 q2 q3 q5 q6 q7 => (pk_un q2).trans (pk_un q1)⟩⟩
  · obtain ⟨v4, v5, k1, k2, k3, s, s0, s1, s2⟩ := TP.ref (NF := NF) (g := g) hc a3'
    obtain ⟨M, hM⟩ : ∃ M, 4294967296 + NF = M + 1 := ⟨4294967295 + NF, by omega⟩
    rw [if_neg e, if_neg (nlit 3 3 rfl (by omega) (by decide) e), k1, k2]
    refine Or.inr ⟨v4, v5, w3, g, ite01, ?_, FP.tr a4 a5 k3⟩
    show gsY_X11_newName_1_L80 NF 6 (nI a) (4294967296 + NF) 0 v5 f1 w3 g = _
    rw [hM, yIsN_f s2 s0 s1]
end
