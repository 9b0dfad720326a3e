section
variable {NF : Nat}
theorem yIsName {c : Nat → Nat} {n i : Nat} {v : Nat → Int32} {f : Nat → Nat → Int32} {w : Int64} {g : Nat → Int64} (hc : ∀ k, k < n → c k < 256) (C : CY c n i v w) : gsY_X11_isName_1 NF v f w g = if tk_k c n i = 3 then 1 else 0 := by
  have hk := tk_lt hc i
  obtain ⟨t1, t2⟩ := tS1 _ hk
  simp only [gsY_X11_isName_1, C.2.1]
  by_cases h : tS (tk_k c n i) = 1
  · have hW : ∀ k, 101 ≤ k → k ≤ 121 → ∀ j : Int64, j = wC k → (lg_cmp w j = 0 ↔ tk_k c n i = k) := fun k h1 h2 j hj => by rw [lgc, hj, C.2.2.2.2 h]; exact tok_W hc h h1 h2
    rw [if_pos (t1.mpr h)]
    have hr : tk_k c n i ≤ 121 := tok_le hc h
    have key : gsY_X11_isOwn_1 NF v f w g = if tk_k c n i = 3 then 0 else 1 := by
      simp only [gsY_X11_isOwn_1]
      have w101 := hW 101 (by decide) (by decide) 7168366 (by decide +kernel)
      have w109 := hW 109 (by decide) (by decide) 1952541804 (by decide +kernel)
      have w110 := hW 110 (by decide) (by decide) 2003395685 (by decide +kernel)
      have w111 := hW 111 (by decide) (by decide) 444301539187 (by decide +kernel)
      have w102 := hW 102 (by decide) (by decide) 1668243828 (by decide +kernel)
      have w112 := hW 112 (by decide) (by decide) 1936023917 (by decide +kernel)
      have w120 := hW 120 (by decide) (by decide) 2003792494 (by decide +kernel)
      have w103 := hW 103 (by decide) (by decide) 6909036 (by decide +kernel)
      have w104 := hW 104 (by decide) (by decide) 1700885369 (by decide +kernel)
      have w105 := hW 105 (by decide) (by decide) 1651469428 (by decide +kernel)
      have w106 := hW 106 (by decide) (by decide) 1818848101 (by decide +kernel)
      have w107 := hW 107 (by decide) (by decide) 1918986606 (by decide +kernel)
      have w108 := hW 108 (by decide) (by decide) 1685217655 (by decide +kernel)
      have w116 := hW 116 (by decide) (by decide) 499984590964 (by decide +kernel)
      have w117 := hW 117 (by decide) (by decide) 465726042981 (by decide +kernel)
      have w118 := hW 118 (by decide) (by decide) 495673373300 (by decide +kernel)
      have w119 := hW 119 (by decide) (by decide) 1819242087 (by decide +kernel)
      have w121 := hW 121 (by decide) (by decide) 6578553 (by decide +kernel)
      have w114 := hW 114 (by decide) (by decide) 6385252 (by decide +kernel)
      have w113 := hW 113 (by decide) (by decide) 28530 (by decide +kernel)
      have w115 := hW 115 (by decide) (by decide) 7237492 (by decide +kernel)
      by_cases e101 : tk_k c n i = 101
      · rw [if_pos (w101.mpr e101), if_neg (show ¬ tk_k c n i = 3 by omega)]
      rw [if_neg (fun z => e101 (w101.mp z))]
      by_cases e109 : tk_k c n i = 109
      · rw [if_pos (w109.mpr e109), if_neg (show ¬ tk_k c n i = 3 by omega)]
      rw [if_neg (fun z => e109 (w109.mp z))]
      by_cases e110 : tk_k c n i = 110
      · rw [if_pos (w110.mpr e110), if_neg (show ¬ tk_k c n i = 3 by omega)]
      rw [if_neg (fun z => e110 (w110.mp z))]
      by_cases e111 : tk_k c n i = 111
      · rw [if_pos (w111.mpr e111), if_neg (show ¬ tk_k c n i = 3 by omega)]
      rw [if_neg (fun z => e111 (w111.mp z))]
      by_cases e102 : tk_k c n i = 102
      · rw [if_pos (w102.mpr e102), if_neg (show ¬ tk_k c n i = 3 by omega)]
      rw [if_neg (fun z => e102 (w102.mp z))]
      by_cases e112 : tk_k c n i = 112
      · rw [if_pos (w112.mpr e112), if_neg (show ¬ tk_k c n i = 3 by omega)]
      rw [if_neg (fun z => e112 (w112.mp z))]
      by_cases e120 : tk_k c n i = 120
      · rw [if_pos (w120.mpr e120), if_neg (show ¬ tk_k c n i = 3 by omega)]
      rw [if_neg (fun z => e120 (w120.mp z))]
      by_cases e103 : tk_k c n i = 103
      · rw [if_pos (w103.mpr e103), if_neg (show ¬ tk_k c n i = 3 by omega)]
      rw [if_neg (fun z => e103 (w103.mp z))]
      by_cases e104 : tk_k c n i = 104
      · rw [if_pos (w104.mpr e104), if_neg (show ¬ tk_k c n i = 3 by omega)]
      rw [if_neg (fun z => e104 (w104.mp z))]
      by_cases e105 : tk_k c n i = 105
      · rw [if_pos (w105.mpr e105), if_neg (show ¬ tk_k c n i = 3 by omega)]
      rw [if_neg (fun z => e105 (w105.mp z))]
      by_cases e106 : tk_k c n i = 106
      · rw [if_pos (w106.mpr e106), if_neg (show ¬ tk_k c n i = 3 by omega)]
      rw [if_neg (fun z => e106 (w106.mp z))]
      by_cases e107 : tk_k c n i = 107
      · rw [if_pos (w107.mpr e107), if_neg (show ¬ tk_k c n i = 3 by omega)]
      rw [if_neg (fun z => e107 (w107.mp z))]
      by_cases e108 : tk_k c n i = 108
      · rw [if_pos (w108.mpr e108), if_neg (show ¬ tk_k c n i = 3 by omega)]
      rw [if_neg (fun z => e108 (w108.mp z))]
      by_cases e116 : tk_k c n i = 116
      · rw [if_pos (w116.mpr e116), if_neg (show ¬ tk_k c n i = 3 by omega)]
      rw [if_neg (fun z => e116 (w116.mp z))]
      by_cases e117 : tk_k c n i = 117
      · rw [if_pos (w117.mpr e117), if_neg (show ¬ tk_k c n i = 3 by omega)]
      rw [if_neg (fun z => e117 (w117.mp z))]
      by_cases e118 : tk_k c n i = 118
      · rw [if_pos (w118.mpr e118), if_neg (show ¬ tk_k c n i = 3 by omega)]
      rw [if_neg (fun z => e118 (w118.mp z))]
      by_cases e119 : tk_k c n i = 119
      · rw [if_pos (w119.mpr e119), if_neg (show ¬ tk_k c n i = 3 by omega)]
      rw [if_neg (fun z => e119 (w119.mp z))]
      by_cases e121 : tk_k c n i = 121
      · rw [if_pos (w121.mpr e121), if_neg (show ¬ tk_k c n i = 3 by omega)]
      rw [if_neg (fun z => e121 (w121.mp z))]
      by_cases e114 : tk_k c n i = 114
      · rw [if_pos (w114.mpr e114), if_neg (show ¬ tk_k c n i = 3 by omega)]
      rw [if_neg (fun z => e114 (w114.mp z))]
      by_cases e113 : tk_k c n i = 113
      · rw [if_pos (w113.mpr e113), if_neg (show ¬ tk_k c n i = 3 by omega)]
      rw [if_neg (fun z => e113 (w113.mp z))]
      by_cases e115 : tk_k c n i = 115
      · rw [if_pos (w115.mpr e115), if_neg (show ¬ tk_k c n i = 3 by omega)]
      rw [if_neg (fun z => e115 (w115.mp z))]
      have h3 : tk_k c n i = 3 := by have := t2.mp h; omega
      rw [if_pos h3]
    rw [key]
    by_cases e : tk_k c n i = 3
    · rw [if_pos e, if_pos e, ite01]
    · rw [if_neg e, if_neg e, ite11]
  · rw [if_neg (fun z => h (t1.mp z)), if_neg (show ¬ tk_k c n i = 3 from fun z => h (t2.mpr (Or.inl z)))]
theorem run_at {c : Nat → Nat} {n p k : Nat} (hk : k ≤ lx_c lx_l c n p - p) : (p + k < n ∧ lx_l (c (p + k)) = true) ↔ k < lx_c lx_l c n p - p := by
  have hg := lx_cge lx_l c n p
  constructor
  · intro h
    by_cases e : k = lx_c lx_l c n p - p
    · exfalso
      have := lx_cout lx_l c n p
      rw [show lx_c lx_l c n p = p + k by omega] at this
      exact this h
    · omega
  · intro h
    exact lx_cin (p := p) (by omega) (by omega)
theorem xSame {c : Nat → Nat} {n : Nat} {v : Nat → Int32} {f : Nat → Nat → Int32} (T : TX c n v f) {p q : Nat} (hp : p < 10000) (hq : q < 10000) (h8p : lx_c lx_l c n p - p ≤ 8) (h8q : lx_c lx_l c n q - q ≤ 8) : ∀ (fu k : Nat), k ≤ lx_c lx_l c n p - p → k ≤ lx_c lx_l c n q - q → (∀ i, i < k → c (p + i) = c (q + i)) → 9 - k < fu → ((lx_c lx_l c n p - p = lx_c lx_l c n q - q ∧ ∀ i, i < lx_c lx_l c n p - p → c (p + i) = c (q + i)) → gsX_X9_sameWord_1_L1 NF (nI p) (nI q) v f fu (nI k) = 1) ∧ (¬ (lx_c lx_l c n p - p = lx_c lx_l c n q - q ∧ ∀ i, i < lx_c lx_l c n p - p → c (p + i) = c (q + i)) → gsX_X9_sameWord_1_L1 NF (nI p) (nI q) v f fu (nI k) = 0) := by
  intro fu
  induction fu with
  | zero => intro k _ _ _ h; exact absurd h (Nat.not_lt_zero _)
  | succ fu ih =>
    intro k kp kq hE hf
    simp only [gsX_X9_sameWord_1_L1, nI_add, nI_1, xLet T (show p + k < 2 ^ 31 by omega), xLet T (show q + k < 2 ^ 31 by omega)]
    rw [if_neg (show ¬ (8 : Int32) < nI k from nI_nlt (a := 8) (by omega) (by omega))]
    by_cases ep : p + k < n ∧ lx_l (c (p + k)) = true
    · have lp := (run_at kp).mp ep
      simp only [if_pos ep, ite11, if_true]
      by_cases eq : q + k < n ∧ lx_l (c (q + k)) = true
      · have lq := (run_at kq).mp eq
        simp only [if_pos eq, ite11, if_true]
        rw [nI_clamp (by omega), nI_clamp (by omega), (T.2.2 _ ep.1).2, (T.2.2 _ eq.1).2]
        by_cases e : c (p + k) = c (q + k)
        · rw [if_pos (by rw [e])]
          exact ih (k + 1) (by omega) (by omega) (fun i hi => by
            by_cases z : i = k
            · rw [z]; exact e
            · exact hE i (by omega)) (by omega)
        · rw [if_neg (fun z => e (sb_inj2 (T.2.2 _ ep.1).1 (T.2.2 _ eq.1).1 z))]
          exact ⟨fun z => absurd (z.2 k lp) e, fun _ => rfl⟩
      · have lq : ¬ k < lx_c lx_l c n q - q := fun z => eq ((run_at kq).mpr z)
        simp only [if_neg eq, ite01, if_false]
        exact ⟨fun z => by omega, fun _ => trivial⟩
    · have lp : ¬ k < lx_c lx_l c n p - p := fun z => ep ((run_at kp).mpr z)
      simp only [if_neg ep, ite01, if_false]
      by_cases eq : q + k < n ∧ lx_l (c (q + k)) = true
      · have lq := (run_at kq).mp eq
        simp only [if_pos eq, ite11, if_true]
        exact ⟨fun z => by omega, fun _ => trivial⟩
      · have lq : ¬ k < lx_c lx_l c n q - q := fun z => eq ((run_at kq).mpr z)
        simp only [if_neg eq, ite01, if_false]
        exact ⟨fun _ => trivial, fun z => absurd ⟨by omega, fun i hi => hE i (by omega)⟩ z⟩
def NMx (c : Nat → Nat) (n : Nat) (x : Int32) (y : Int64) : Prop := ∃ p, x = nI p ∧ p < n ∧ lx_c lx_l c n p - p ≤ 8 ∧ y = wvF c (lx_c lx_l c n p - p) p 0
theorem xName1 {c : Nat → Nat} {n i : Nat} {v : Nat → Int32} {f : Nat → Nat → Int32} {g : Nat → Int64} (T : TX c n v f) (hc : ∀ k, k < n → c k < 256) (C : CX c n i v) (h3 : tk_k c n i = 3) {a : Nat} (ha : a < 6) (hn : ∀ j, j < a → NMx c n (f 7 j) (g (0 + j))) : ∀ (fu k : Nat), k ≤ a → a - k < fu → ((∀ j, k ≤ j → j < a → ¬ g (0 + j) = tk_w c n i) → gsX_X6_name_1_L2 NF (nI a) fu (nI k) v f = (match gsX_X9_advance_1 NF v (upd2 f 7 (upd (f 7) a (nI (tk_p c n i)))) with | (v16, f17) => (1, v16, f17))) ∧ (¬ (∀ j, k ≤ j → j < a → ¬ g (0 + j) = tk_w c n i) → gsX_X6_name_1_L2 NF (nI a) fu (nI k) v f = (0, upd (upd v 7 3) 8 (nI (tk_p c n i)), f)) := by
  have hle := (tk_b_le c n i).2
  have hN := T.2.1
  have hS : tS (tK c n (tk_p c n i)) = 1 := by rw [show tK c n (tk_p c n i) = 3 from h3]; rfl
  obtain ⟨t1, t2, t3, t4, t5⟩ := tok_word hc hS
  have h8 : lx_c lx_l c n (tk_p c n i) - tk_p c n i ≤ 8 := by rw [← t3]; exact t4
  have hw : tk_w c n i = wvF c (lx_c lx_l c n (tk_p c n i) - tk_p c n i) (tk_p c n i) 0 := by
    show wvF c (tE c n (tk_p c n i) - tk_p c n i) (tk_p c n i) 0 = _
    rw [t3]
  intro fu
  induction fu with
  | zero => intro k _ h; exact absurd h (Nat.not_lt_zero _)
  | succ fu ih =>
    intro k hk hf
    simp only [gsX_X6_name_1_L2, C.2.1]
    by_cases e : k < a
    · rw [if_neg (nI_ge e (by omega)), if_neg (show ¬ (6 : Int32) ≤ nI k from nI_ge (b := 6) (by omega) (by omega)), nI_clamp (by omega), nI_1]
      obtain ⟨p, p1, p2, p3, p4⟩ := hn k e
      have hs := xSame (NF := NF) T (p := p) (q := tk_p c n i) (by omega) (by omega) p3 h8 (4294967296 + NF) 0 (Nat.zero_le _) (Nat.zero_le _) (fun i hi => absurd hi (by omega)) (by omega)
      have hiff := wv_inj (c := c) (d := c) (p := p) (q := tk_p c n i) p3 h8 run_l run_l
      rw [← p4, ← hw] at hiff
      have hsw : gsX_X9_sameWord_1 NF (nI p) (nI (tk_p c n i)) v f = gsX_X9_sameWord_1_L1 NF (nI p) (nI (tk_p c n i)) v f (4294967296 + NF) (nI 0) := rfl
      rw [p1, hsw]
      by_cases q : g (0 + k) = tk_w c n i
      · rw [hs.1 (hiff.mp q), if_pos rfl]
        refine ⟨fun z => absurd q (z k (Nat.le_refl _) e), fun _ => ?_⟩
        simp only [gsX_X6_refuseAs_1, C.2.1, ite01]
      · rw [hs.2 (fun z => q (hiff.mpr z)), if_neg (by decide)]
        obtain ⟨b1, b2⟩ := ih (k + 1) (by omega) (by omega)
        have hh : (∀ j, k ≤ j → j < a → ¬ g (0 + j) = tk_w c n i) ↔ (∀ j, k + 1 ≤ j → j < a → ¬ g (0 + j) = tk_w c n i) := by
          constructor
          · intro z j h1 h2; exact z j (by omega) h2
          · intro z j h1 h2
            by_cases y : j = k
            · rw [y]; exact q
            · exact z j (by omega) h2
        rw [hh]
        exact ⟨b1, b2⟩
    · rw [if_pos (nI_le (by omega) (by omega)), if_neg (nI_pos (by omega)), if_neg (show ¬ (6 : Int32) ≤ nI a from nI_ge (b := 6) (by omega) (by omega)), nI_clamp (by omega)]
      exact ⟨fun _ => rfl, fun z => absurd (fun j h1 h2 => absurd h2 (by omega)) z⟩
theorem xName2 {c : Nat → Nat} {n i : Nat} {v : Nat → Int32} {f : Nat → Nat → Int32} {g : Nat → Int64} (T : TX c n v f) (hc : ∀ k, k < n → c k < 256) (C : CX c n i v) (h3 : tk_k c n i = 3) {a : Nat} (ha : a < 6) (hn : ∀ j, j < a → NMx c n (f 8 j) (g (6 + j))) : ∀ (fu k : Nat), k ≤ a → a - k < fu → ((∀ j, k ≤ j → j < a → ¬ g (6 + j) = tk_w c n i) → gsX_X6_name_2_L2 NF (nI a) fu (nI k) v f = (match gsX_X9_advance_1 NF v (upd2 f 8 (upd (f 8) a (nI (tk_p c n i)))) with | (v16, f17) => (1, v16, f17))) ∧ (¬ (∀ j, k ≤ j → j < a → ¬ g (6 + j) = tk_w c n i) → gsX_X6_name_2_L2 NF (nI a) fu (nI k) v f = (0, upd (upd v 7 3) 8 (nI (tk_p c n i)), f)) := by
  have hle := (tk_b_le c n i).2
  have hN := T.2.1
  have hS : tS (tK c n (tk_p c n i)) = 1 := by rw [show tK c n (tk_p c n i) = 3 from h3]; rfl
  obtain ⟨t1, t2, t3, t4, t5⟩ := tok_word hc hS
  have h8 : lx_c lx_l c n (tk_p c n i) - tk_p c n i ≤ 8 := by rw [← t3]; exact t4
  have hw : tk_w c n i = wvF c (lx_c lx_l c n (tk_p c n i) - tk_p c n i) (tk_p c n i) 0 := by
    show wvF c (tE c n (tk_p c n i) - tk_p c n i) (tk_p c n i) 0 = _
    rw [t3]
  intro fu
  induction fu with
  | zero => intro k _ h; exact absurd h (Nat.not_lt_zero _)
  | succ fu ih =>
    intro k hk hf
    simp only [gsX_X6_name_2_L2, C.2.1]
    by_cases e : k < a
    · rw [if_neg (nI_ge e (by omega)), if_neg (show ¬ (6 : Int32) ≤ nI k from nI_ge (b := 6) (by omega) (by omega)), nI_clamp (by omega), nI_1]
      obtain ⟨p, p1, p2, p3, p4⟩ := hn k e
      have hs := xSame (NF := NF) T (p := p) (q := tk_p c n i) (by omega) (by omega) p3 h8 (4294967296 + NF) 0 (Nat.zero_le _) (Nat.zero_le _) (fun i hi => absurd hi (by omega)) (by omega)
      have hiff := wv_inj (c := c) (d := c) (p := p) (q := tk_p c n i) p3 h8 run_l run_l
      rw [← p4, ← hw] at hiff
      have hsw : gsX_X9_sameWord_1 NF (nI p) (nI (tk_p c n i)) v f = gsX_X9_sameWord_1_L1 NF (nI p) (nI (tk_p c n i)) v f (4294967296 + NF) (nI 0) := rfl
      rw [p1, hsw]
      by_cases q : g (6 + k) = tk_w c n i
      · rw [hs.1 (hiff.mp q), if_pos rfl]
        refine ⟨fun z => absurd q (z k (Nat.le_refl _) e), fun _ => ?_⟩
        simp only [gsX_X6_refuseAs_1, C.2.1, ite01]
      · rw [hs.2 (fun z => q (hiff.mpr z)), if_neg (by decide)]
        obtain ⟨b1, b2⟩ := ih (k + 1) (by omega) (by omega)
        have hh : (∀ j, k ≤ j → j < a → ¬ g (6 + j) = tk_w c n i) ↔ (∀ j, k + 1 ≤ j → j < a → ¬ g (6 + j) = tk_w c n i) := by
          constructor
          · intro z j h1 h2; exact z j (by omega) h2
          · intro z j h1 h2
            by_cases y : j = k
            · rw [y]; exact q
            · exact z j (by omega) h2
        rw [hh]
        exact ⟨b1, b2⟩
    · rw [if_pos (nI_le (by omega) (by omega)), if_neg (nI_pos (by omega)), if_neg (show ¬ (6 : Int32) ≤ nI a from nI_ge (b := 6) (by omega) (by omega)), nI_clamp (by omega)]
      exact ⟨fun _ => rfl, fun z => absurd (fun j h1 h2 => absurd h2 (by omega)) z⟩
end
