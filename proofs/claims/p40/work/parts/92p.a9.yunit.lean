section
variable {NF : Nat}
section
variable {c : Nat → Nat} {n : Nat} {v0 : Nat → Int32} {f0 : Nat → Nat → Int32} {v : Nat → Int32} {f : Nat → Nat → Int32} {w : Int64} {g : Nat → Int64} {i own : Nat} {out : List (Nat × Int32)}
theorem yHasR_L : ∀ (l : List Nat) (a fu : Nat), STY (a :: l) f → l.length < 1000 → l.length < fu → gsY_X11_hasRelation_1_L3 NF v f w g fu (nI l.length) = if fHasR (a :: l) = true then 1 else 0 := by
  intro l
  induction l with
  | nil =>
    intro a fu h _ hf
    obtain ⟨fu, rfl⟩ : ∃ q, fu = q + 1 := ⟨fu - 1, by omega⟩
    obtain ⟨s1, s2, s3⟩ := h
    obtain ⟨q20, q21, qlt, _⟩ := vS_f a (vS_lt s2) s2
    have h6 := fTg_lt a
    have s1 : f 6 0 = nI (eS a) := s1
    have hn : ¬ nI ([] : List Nat).length < 0 := nI_pos (by decide)
    have hr : fHasR [a] = if a = 40 then false else if 4 < fTg a then false else decide (fTg a = 4) := rfl
    simp only [gsY_X11_hasRelation_1_L3, if_neg hn]
    rw [show (nI ([] : List Nat).length).toNatClampNeg = 0 from nI_clamp (by decide), s1, hr]
    by_cases e40 : a = 40
    · rw [if_pos (by rw [q20.mpr e40]; rfl), if_pos (by rw [q20.mpr e40]; rfl), if_pos e40]; rfl
    · rw [if_neg (nlit 20 20 rfl (by omega) (by decide) (fun z => e40 (q20.mp z))), yTight s2 e40, if_neg e40]
      by_cases e4 : 4 < fTg a
      · rw [if_neg (show ¬ nI (fTg a) ≤ (4 : Int32) from nI_ge (a := 4) e4 (by omega)), if_pos e4]
        obtain ⟨fu, rfl⟩ | e0 : (∃ q, fu = q + 1) ∨ fu = 0 := by rcases fu with _ | q; exact Or.inr rfl; exact Or.inl ⟨q, rfl⟩
        · simp only [gsY_X11_hasRelation_1_L3]
          rw [if_pos (show nI ([] : List Nat).length + (-1) < 0 by decide), if_pos (show nI ([] : List Nat).length + (-1) < 0 by decide)]
          rfl
        · subst e0; rfl
      · rw [if_pos (show nI (fTg a) ≤ (4 : Int32) from nI_le (b := 4) (by omega) (by omega)), if_neg (nlit 20 20 rfl (by omega) (by decide) (fun z => e40 (q20.mp z))), if_neg e4]
        by_cases e5 : fTg a = 4
        · rw [if_pos (by rw [e5]; rfl), if_pos (decide_eq_true e5)]
        · rw [if_neg (nlit 4 4 rfl (by omega) (by decide) e5), if_neg (by rw [decide_eq_false e5]; decide)]
  | cons b l ih =>
    intro a fu h hb hf
    obtain ⟨fu, rfl⟩ : ∃ q, fu = q + 1 := ⟨fu - 1, by omega⟩
    rw [List.length_cons] at hb hf
    obtain ⟨s1, s2, s3⟩ := h
    obtain ⟨q20, q21, qlt, _⟩ := vS_f a (vS_lt s2) s2
    have h6 := fTg_lt a
    have s1 : f 6 (l.length + 1) = nI (eS a) := s1
    have hn : ¬ nI (l.length + 1) < 0 := nI_pos (by omega)
    have hr : fHasR (a :: b :: l) = if a = 40 then false else if 4 < fTg a then fHasR (b :: l) else decide (fTg a = 4) := rfl
    rw [List.length_cons]
    simp only [gsY_X11_hasRelation_1_L3, if_neg hn]
    rw [nI_clamp (by omega), s1, hr]
    by_cases e40 : a = 40
    · rw [if_pos (by rw [q20.mpr e40]; rfl), if_pos (by rw [q20.mpr e40]; rfl), if_pos e40]; rfl
    · rw [if_neg (nlit 20 20 rfl (by omega) (by decide) (fun z => e40 (q20.mp z))), yTight s2 e40, if_neg e40]
      by_cases e4 : 4 < fTg a
      · rw [if_neg (show ¬ nI (fTg a) ≤ (4 : Int32) from nI_ge (a := 4) e4 (by omega)), if_pos e4, pk_m1]
        exact ih b fu s3 (by omega) (by omega)
      · rw [if_pos (show nI (fTg a) ≤ (4 : Int32) from nI_le (b := 4) (by omega) (by omega)), if_neg (nlit 20 20 rfl (by omega) (by decide) (fun z => e40 (q20.mp z))), if_neg e4]
        by_cases e5 : fTg a = 4
        · rw [if_pos (by rw [e5]; rfl), if_pos (decide_eq_true e5)]
        · rw [if_neg (nlit 4 4 rfl (by omega) (by decide) e5), if_neg (by rw [decide_eq_false e5]; decide)]
theorem yHasR {st : List Nat} (h : STY st f) (h10 : v 10 = nI st.length) (hb : st.length < 1000) : gsY_X11_hasRelation_1 NF v f w g = if fHasR st = true then 1 else 0 := by
  simp only [gsY_X11_hasRelation_1, h10]
  match st, h, hb with
  | [], _, _ =>
    obtain ⟨M, hM⟩ : ∃ M, 4294967296 + NF = M + 1 := ⟨4294967295 + NF, by omega⟩
    rw [hM, gsY_X11_hasRelation_1_L3]
    rw [if_pos (show nI ([] : List Nat).length - 1 < 0 by decide), if_pos (show nI ([] : List Nat).length - 1 < 0 by decide)]
    rfl
  | a :: l, h, hb =>
    rw [List.length_cons] at hb
    rw [List.length_cons, nI_pred]
    exact yHasR_L l a (4294967296 + NF) h (by omega) (by omega)
theorem yMay {st : List Nat} (h : STY st f) (h10 : v 10 = nI st.length) (hb : st.length < 1000) : gsY_X11_mayNot_1 NF v f w g = if fMay st = true then 1 else 0 := by
  simp only [gsY_X11_mayNot_1, h10]
  match st, h, hb with
  | [], _, _ => rw [if_pos (show nI ([] : List Nat).length = 0 from rfl)]; rfl
  | a :: l, h, hb =>
    rw [List.length_cons] at hb
    obtain ⟨s1, s2, s3⟩ := h
    obtain ⟨q20, q21, qlt, _⟩ := vS_f a (vS_lt s2) s2
    have h6 := fTg_lt a
    rw [List.length_cons, if_neg (nI_ne0 (by omega) (by omega)), nI_pred, nI_clamp (by omega), s1]
    have hm : fMay (a :: l) = (a == 40 || decide (fTg a < 4)) := rfl
    rw [hm]
    by_cases e40 : a = 40
    · rw [if_pos (by rw [q20.mpr e40]; rfl), if_pos (by rw [e40]; rfl)]
    · rw [if_neg (nlit 20 20 rfl (by omega) (by decide) (fun z => e40 (q20.mp z))), yTight s2 e40, beq_false_of_ne e40, Bool.false_or]
      by_cases e4 : fTg a < 4
      · rw [if_neg (show ¬ (4 : Int32) ≤ nI (fTg a) from nI_ge (b := 4) e4 (by omega)), if_pos (decide_eq_true e4)]
      · rw [if_pos (show (4 : Int32) ≤ nI (fTg a) from nI_le (a := 4) (by omega) (by omega)), if_neg (by rw [decide_eq_false e4]; decide)]
theorem yHasB_L {len : Nat} (h10 : v 10 = nI len) (hb : len < 1000) : ∀ (fu k : Nat) (b : Int32), (b = 0 ∨ b = 1) → k ≤ len → len - k < fu → ((b = 1 ∨ ∃ j, k ≤ j ∧ j < len ∧ f 6 j = 20) → gsY_X11_hasBracket_1_L1 NF v f fu b (nI k) = 1) ∧ (¬ (b = 1 ∨ ∃ j, k ≤ j ∧ j < len ∧ f 6 j = 20) → gsY_X11_hasBracket_1_L1 NF v f fu b (nI k) = 0) := by
  intro fu
  induction fu with
  | zero => intro k b _ _ h; exact absurd h (Nat.not_lt_zero _)
  | succ fu ih =>
    intro k b hb01 hk hf
    simp only [gsY_X11_hasBracket_1_L1, h10, nI_1]
    by_cases hlt : k < len
    · rw [if_neg (nI_ge hlt (by omega)), nI_clamp (by omega)]
      rcases hb01 with rfl | rfl
      · rw [if_pos rfl]
        by_cases e : f 6 k = 20
        · rw [if_pos e]
          obtain ⟨a1, a2⟩ := ih (k + 1) 1 (Or.inr rfl) (by omega) (by omega)
          exact ⟨fun _ => a1 (Or.inl rfl), fun z => absurd (Or.inr ⟨k, Nat.le_refl _, hlt, e⟩) z⟩
        · rw [if_neg e]
          obtain ⟨a1, a2⟩ := ih (k + 1) 0 (Or.inl rfl) (by omega) (by omega)
          have hiff : ((0 : Int32) = 1 ∨ ∃ j, k ≤ j ∧ j < len ∧ f 6 j = 20) ↔ ((0 : Int32) = 1 ∨ ∃ j, k + 1 ≤ j ∧ j < len ∧ f 6 j = 20) := by
            constructor
            · rintro (h | ⟨j, h1, h2, h3⟩)
              · exact Or.inl h
              · refine Or.inr ⟨j, ?_, h2, h3⟩
                by_cases q : j = k
                · rw [q] at h3; exact absurd h3 e
                · omega
            · rintro (h | ⟨j, h1, h2, h3⟩)
              · exact Or.inl h
              · exact Or.inr ⟨j, by omega, h2, h3⟩
          rw [hiff]
          exact ⟨a1, a2⟩
      · rw [if_neg (show ¬ (1 : Int32) = 0 by decide)]
        obtain ⟨a1, a2⟩ := ih (k + 1) 1 (Or.inr rfl) (by omega) (by omega)
        exact ⟨fun _ => a1 (Or.inl rfl), fun z => absurd (Or.inl rfl) z⟩
    · rw [if_pos (nI_le (by omega) (by omega))]
      refine ⟨fun h => ?_, fun h => ?_⟩
      · rcases h with h | ⟨j, h1, h2, _⟩
        · exact h
        · omega
      · rcases hb01 with h1 | h1
        · exact h1
        · exact absurd (Or.inl h1) h
theorem sty_20 : ∀ {st : List Nat}, STY st f → (fHasB st = true ↔ ∃ j, 0 ≤ j ∧ j < st.length ∧ f 6 j = 20) := by
  intro st
  induction st with
  | nil => intro _; exact ⟨fun h => absurd h (by decide), fun ⟨j, _, h, _⟩ => absurd h (by simp)⟩
  | cons a l ih =>
    intro h
    obtain ⟨s1, s2, s3⟩ := h
    obtain ⟨q20, q21, qlt, _⟩ := vS_f a (vS_lt s2) s2
    have hh : fHasB (a :: l) = true ↔ (a = 40 ∨ fHasB l = true) := by
      simp only [fHasB, List.contains_eq_mem, List.mem_cons, decide_eq_true_eq]
      constructor
      · rintro (h | h)
        · exact Or.inl h.symm
        · exact Or.inr h
      · rintro (h | h)
        · exact Or.inl h.symm
        · exact Or.inr h
    rw [hh, ih s3, List.length_cons]
    constructor
    · rintro (h | ⟨j, _, h1, h2⟩)
      · exact ⟨l.length, Nat.zero_le _, by omega, by rw [s1, q20.mpr h]; rfl⟩
      · exact ⟨j, Nat.zero_le _, by omega, h2⟩
    · rintro ⟨j, _, h1, h2⟩
      by_cases e : j = l.length
      · rw [e, s1] at h2
        exact Or.inl (q20.mp ((nI_eq (b := 20) (by omega) (by omega)).mp h2))
      · exact Or.inr ⟨j, Nat.zero_le _, by omega, h2⟩
theorem yHasB {st : List Nat} (h : STY st f) (h10 : v 10 = nI st.length) (hb : st.length < 1000) : gsY_X11_hasBracket_1 NF v f w g = if fHasB st = true then 1 else 0 := by
  unfold gsY_X11_hasBracket_1
  obtain ⟨a1, a2⟩ := yHasB_L (f := f) h10 hb (4294967296 + NF) 0 0 (Or.inl rfl) (Nat.zero_le _) (by omega)
  have hs := sty_20 h
  by_cases e : fHasB st = true
  · rw [if_pos e]; exact a1 (Or.inr (hs.mp e))
  · rw [if_neg e]
    refine a2 (fun z => ?_)
    rcases z with z | z
    · exact absurd z (by decide)
    · exact e (hs.mpr z)
theorem tSsg : ∀ k, k < 256 → k ≠ 113 → k ≠ 114 → ((if nI (tS k) = 60 then nI (tS k) else if nI (tS k) = 62 then nI (tS k) else if nI (tS k) = 61 then nI (tS k) else if nI (tS k) = 43 then nI (tS k) else if nI (tS k) = 45 then nI (tS k) else if nI (tS k) = 42 then nI (tS k) else if nI (tS k) = 47 then nI (tS k) else if nI (tS k) = 37 then nI (tS k) else 0) = if fSg k = true then nI (eS k) else 0) := by decide +kernel
theorem ySign (hc : ∀ k, k < n → c k < 256) (C : CY c n i v w) : gsY_X11_sign_1 NF v f w g = if fSg (tk_k c n i) = true then nI (eS (tk_k c n i)) else 0 := by
  have hk := tk_lt hc i
  unfold gsY_X11_sign_1
  rw [yIsW hc C (k := 114) (by decide) (by decide) (by decide +kernel), yIsW hc C (k := 113) (by decide) (by decide) (by decide +kernel)]
  by_cases e1 : tk_k c n i = 114
  · rw [if_pos e1, ite11, e1]; rfl
  · rw [if_neg e1, ite01]
    by_cases e2 : tk_k c n i = 113
    · rw [if_pos e2, ite11, e2]; rfl
    · rw [if_neg e2, ite01, C.2.1]
      exact tSsg _ hk e2 e1
theorem tS1 : ∀ k, k < 256 → (nI (tS k) = 1 ↔ tS k = 1) ∧ (tS k = 1 ↔ (k = 3 ∨ 101 ≤ k)) := by decide +kernel
theorem yAsked (hc : ∀ k, k < n → c k < 256) (C : CY c n i v w) : gsY_X11_asked_1 NF v f w g = if 116 ≤ tk_k c n i ∧ tk_k c n i ≤ 121 then nI (tk_k c n i - 116) else -1 := by
  have hk := tk_lt hc i
  obtain ⟨t1, t2⟩ := tS1 _ hk
  simp only [gsY_X11_asked_1, C.2.1]
  by_cases h : tS (tk_k c n i) = 1
  · rw [if_pos (t1.mpr h), C.2.2.2.2 h]
    have hW : ∀ k, 101 ≤ k → k ≤ 121 → ∀ j : Int64, j = wC k → (lg_cmp (tk_w c n i) j = 0 ↔ tk_k c n i = k) := fun k h1 h2 j hj => by rw [lgc, hj]; exact tok_W hc h h1 h2
    have w0 := hW 116 (by decide) (by decide) 499984590964 (by decide +kernel)
    have w1 := hW 117 (by decide) (by decide) 465726042981 (by decide +kernel)
    have w2 := hW 118 (by decide) (by decide) 495673373300 (by decide +kernel)
    have w3 := hW 119 (by decide) (by decide) 1819242087 (by decide +kernel)
    have w4 := hW 120 (by decide) (by decide) 2003792494 (by decide +kernel)
    have w5 := hW 121 (by decide) (by decide) 6578553 (by decide +kernel)
    by_cases e0 : tk_k c n i = 116
    · rw [if_pos (w0.mpr e0), e0]; rfl
    · rw [if_neg (fun z => e0 (w0.mp z))]
      by_cases e1 : tk_k c n i = 117
      · rw [if_pos (w1.mpr e1), e1]; rfl
      · rw [if_neg (fun z => e1 (w1.mp z))]
        by_cases e2 : tk_k c n i = 118
        · rw [if_pos (w2.mpr e2), e2]; rfl
        · rw [if_neg (fun z => e2 (w2.mp z))]
          by_cases e3 : tk_k c n i = 119
          · rw [if_pos (w3.mpr e3), e3]; rfl
          · rw [if_neg (fun z => e3 (w3.mp z))]
            by_cases e4 : tk_k c n i = 120
            · rw [if_pos (w4.mpr e4), e4]; rfl
            · rw [if_neg (fun z => e4 (w4.mp z))]
              by_cases e5 : tk_k c n i = 121
              · rw [if_pos (w5.mpr e5), e5]; rfl
              · rw [if_neg (fun z => e5 (w5.mp z)), if_neg (by omega)]
  · rw [if_neg (fun z => h (t1.mp z)), if_neg (fun z => h (t2.mpr (Or.inr (by omega))))]
end
end
