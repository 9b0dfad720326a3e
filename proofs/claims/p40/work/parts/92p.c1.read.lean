section
variable {NF : Nat}
theorem tB6 : ∀ t, t < 64 → tBits t ≤ 6 := by decide +kernel
theorem sb0 : SB 10 150 2 0 0 := by unfold SB; decide
theorem readLoop {c : Nat → Nat} {n : Nat} (hc : ∀ k, k < n → c k < 256) : ∀ (fu fu1 l i a b t : Nat) (v : Nat → Int32) (f : Nat → Nat → Int32) (v1 : Nat → Int32) (f1 : Nat → Nat → Int32) (w1 : Int64) (g : Nat → Int64), LR c n v f v1 f1 w1 g i a b t → l = a + b + tBits t → 20 - l < fu → 20 - l < fu1 →
    (∃ (v' : Nat → Int32) (f' : Nat → Nat → Int32) (v1' : Nat → Int32) (f1' : Nat → Nat → Int32) (w1' : Int64) (g' : Nat → Int64) (i' a' b' t' : Nat), gsX_X6_read_1_L7 NF fu (nI l) v f = (1, v', f') ∧ gsY_X11_readAll_1_L11 NF fu1 v1 f1 w1 g = (v1', f1', w1', g') ∧ LR c n v' f' v1' f1' w1' g' i' a' b' t') ∨ LNO c n (gsX_X6_read_1_L7 NF fu (nI l) v f) (gsY_X11_readAll_1_L11 NF fu1 v1 f1 w1 g) := by
  intro fu
  induction fu with
  | zero => intro fu1 l i a b t v f v1 f1 w1 g _ _ h; exact absurd h (Nat.not_lt_zero _)
  | succ fu ih =>
    intro fu1 l i a b t v f v1 f1 w1 g h hl hf hf1
    obtain ⟨fu1, rfl⟩ : ∃ z, fu1 = z + 1 := ⟨fu1 - 1, by omega⟩
    have hk := tk_lt hc i
    have ht := tB6 t h.2.2.2.2.2.2.2.2.1.1
    have ha := h.2.2.1.2.2
    have hb := h.2.2.2.1.2.2
    obtain ⟨_, _, _, _, t0⟩ := tS40 _ hk
    simp only [gsX_X6_read_1_L7, gsY_X11_readAll_1_L11, h.1.2.2.1.1, h.1.2.2.2.1.2.1, h.1.2.2.2.2]
    rw [if_neg (show ¬ (1600 : Int32) ≤ nI l from nI_ge (b := 1600) (by omega) (by omega)), if_pos trivial]
    by_cases e : tk_k c n i = 0
    · rw [if_pos (show nI (tk_k c n i) = (0 : Int32) by rw [e]; rfl), if_pos (t0.mpr e)]
      exact Or.inl ⟨v, f, v1, f1, w1, g, i, a, b, t, rfl, rfl, h⟩
    · rw [if_neg (nlit 0 0 rfl (by omega) (by decide) e), if_neg (fun z => e (t0.mp z)), nI_1]
      rcases linePair (NF := NF) hc h with ⟨v', f', v1', f1', w1', g', i', a', b', t', e1, e2, e3, e4⟩ | ⟨v', f', v1', f1', w1', g', e1, e2, e3⟩
      · simp only [e1, e2, ite11, if_true]
        exact ih fu1 (l + 1) i' a' b' t' v' f' v1' f1' w1' g' e3 (by omega) (by omega) (by omega)
      · simp only [e1, e2, ite01]
        obtain ⟨s, s0, s1, s2⟩ := e3.s
        obtain ⟨fu1, rfl⟩ : ∃ z, fu1 = z + 1 := ⟨fu1 - 1, by omega⟩
        refine Or.inr ⟨v', f', v1', f1', w1', g', rfl, ?_, e3⟩
        simp only [gsY_X11_readAll_1_L11, s2]
        rw [if_neg (nI_ne0 s0 (by omega))]
def TAP (c : Nat → Nat) (n : Nat) (v : Nat → Int32) (f : Nat → Nat → Int32) (v1 : Nat → Int32) (f1 : Nat → Nat → Int32) : Prop := n ≤ 1600 ∧ v 1 = nI n ∧ v1 0 = nI n ∧ ∀ k, k < n → c k < 256 ∧ f 0 k = sb_b (c k) ∧ f1 0 k = nI (c k)
theorem readPair {c : Nat → Nat} {n : Nat} {v : Nat → Int32} {f : Nat → Nat → Int32} {v1 : Nat → Int32} {f1 : Nat → Nat → Int32} {w1 : Int64} {g : Nat → Int64} (h : TAP c n v f v1 f1) :
    (∃ (v' : Nat → Int32) (f' : Nat → Nat → Int32) (v1' : Nat → Int32) (f1' : Nat → Nat → Int32) (w1' : Int64) (g' : Nat → Int64) (i' a' b' t' : Nat), gsX_X6_read_1 NF v f = (1, v', f') ∧ gsY_X11_readAll_1 NF v1 f1 w1 g = (v1', f1', w1', g') ∧ LR c n v' f' v1' f1' w1' g' i' a' b' t') ∨ LNO c n (gsX_X6_read_1 NF v f) (gsY_X11_readAll_1 NF v1 f1 w1 g) := by
  obtain ⟨hn, h1, h2, h3⟩ := h
  have hc : ∀ k, k < n → c k < 256 := fun k hk => (h3 k hk).1
  have T : TX c n v f := ⟨h1, hn, fun k hk => ⟨(h3 k hk).1, (h3 k hk).2.1⟩⟩
  simp only [gsX_X6_read_1, gsX_X7_clear_1, gsX_X4_clear_1, gsX_X7_setDefaults_1, gsX_X9_rewind_1, gsY_X11_readAll_1]
  generalize hV : upd (upd (upd (upd (upd (upd (upd (upd (upd (upd (upd (upd (upd v 9 0) 10 0) 16 0) 17 0) 11 10) 12 150) 13 2) 14 0) 15 0) 6 0) 7 0) 8 (-1)) 4 0 = V
  generalize hU : upd (upd (upd (upd (upd (upd (upd (upd (upd (upd (upd (upd (upd (upd (upd (upd (upd (upd (upd v1 4 (v1 0)) 0 0) 3 0) 1 0) 2 (-1)) 17 0) 18 0) 19 10) 20 150) 21 2) 22 0) 23 0) 30 0) 31 0) 32 0) 33 0) 34 0) 15 0) 11 0 = U
  have TV : TX c n V f := T.of (by rw [← hV]; rfl) rfl
  have TU : TY c n U f1 := ⟨by rw [← hU]; exact h2, hn, fun k hk => ⟨(h3 k hk).1, (h3 k hk).2.2⟩⟩
  obtain ⟨v2, e2, x2, c2⟩ := xAdv (NF := NF) (b := 0) TV (by rw [← hV]; rfl) (Nat.zero_le _)
  obtain ⟨u2, w2, e3, y2, d2⟩ := yTok (NF := NF) (w := w1) (g := g) (b := 0) TU (by rw [← hU]; rfl) (Nat.zero_le _)
  rw [e2, e3]
  have X : ∀ k, 6 ≤ k → v2 k = V k := fun k hk => x2 k (by omega) (by omega) (by omega) (by omega)
  have Y : ∀ k, (k ≤ 2 ∨ 8 ≤ k) → u2 k = U k := fun k hk => y2 k (by omega) (by omega) (by omega) (by omega)
  have lr : LR c n v2 f u2 f1 w2 g 0 0 0 0 := by
    refine ⟨⟨TV.of (x2 1 (by decide) (by decide) (by decide) (by decide)) rfl, TU.of (y2 4 (by decide) (by decide) (by decide) (by decide)) rfl, c2, d2, ?_⟩, ⟨?_, ?_, ?_⟩, ⟨?_, ?_, by decide⟩, ⟨?_, ?_, by decide⟩, fun j hj => absurd hj (by omega), fun j hj => absurd hj (by omega), fun j hj => absurd hj (by omega), fun j hj => absurd hj (by omega), ⟨by decide, ?_, ?_, ?_, ?_, ?_, ?_, ?_⟩, ⟨?_, ?_, ?_, ?_, ?_, ?_⟩, fun _ => ⟨?_, ?_, ?_⟩, fun z => absurd z (by decide)⟩
    · rw [Y 1 (by decide), ← hU]; rfl
    · rw [X 7 (by decide), ← hV]; rfl
    · rw [X 8 (by decide), ← hV]; rfl
    · rw [Y 2 (by decide), ← hU]; rfl
    · rw [X 9 (by decide), ← hV]; rfl
    · rw [Y 17 (by decide), ← hU]; rfl
    · rw [X 10 (by decide), ← hV]; rfl
    · rw [Y 18 (by decide), ← hU]; rfl
    · rw [X 6 (by decide), ← hV]; rfl
    · rw [Y 15 (by decide), ← hU]; rfl
    · rw [Y 30 (by decide), ← hU]; rfl
    · rw [Y 31 (by decide), ← hU]; rfl
    · rw [Y 32 (by decide), ← hU]; rfl
    · rw [Y 33 (by decide), ← hU]; rfl
    · rw [Y 34 (by decide), ← hU]; rfl
    · rw [X 11 (by decide), Y 19 (by decide), ← hV, ← hU]; rfl
    · rw [X 12 (by decide), Y 20 (by decide), ← hV, ← hU]; rfl
    · rw [X 13 (by decide), Y 21 (by decide), ← hV, ← hU]; rfl
    · rw [X 14 (by decide), Y 22 (by decide), ← hV, ← hU]; rfl
    · rw [X 15 (by decide), Y 23 (by decide), ← hV, ← hU]; rfl
    · rw [X 11 (by decide), X 12 (by decide), X 13 (by decide), X 14 (by decide), X 15 (by decide), ← hV]; exact sb0
    · rw [X 16 (by decide), ← hV]; rfl
    · rw [X 17 (by decide), ← hV]; rfl
    · rw [Y 11 (by decide), ← hU]; rfl
  exact readLoop (NF := NF) hc (4294967296 + NF) (4294967296 + NF) 0 0 0 0 0 v2 f u2 f1 w2 g lr rfl (by omega) (by omega)
end
