section
section
variable {NF : Nat}
theorem yIsName {c : Nat → Nat} {n i : Nat} {v : Nat → Int32} {f : Nat → Nat → Int32} {w : Int64} {g : Nat → Int64} (hc : ∀ k, k < n → c k < 256) (C : CY c n i v w) : gsY_X11_isName_1 NF v f w g = if tk_k c n i = 3 then 1 else 0 := by
  have hk := tk_lt hc i
  obtain ⟨t1, t2⟩ := tS1 _ hk
  simp only [gsY_X11_isName_1, C.2.1]
  by_cases h : tS (tk_k c n i) = 1
  · have hW : ∀ k, 101 ≤ k → k ≤ 121 → ∀ j : Int64, j = wC k → (lg_cmp w j = 0 ↔ tk_k c n i = k) := fun k h1 h2 j hj => by rw [lgc, hj, C.2.2.2.2 h]; exact tok_W hc h h1 h2
    rw [if_pos (t1.mpr h)]
    have hr : tk_k c n i ≤ 121 := tok_le hc h
    have key : gsY_X11_isOwn_1 NF v f w g = if tk_k c n i = 3 then 0 else 1 := by
      simp only [gsY_X11_isOwn_1]
      have w101 := hW 101 (by decide) (by decide) 7168366 (by decide +kernel)
      have w109 := hW 109 (by decide) (by decide) 1952541804 (by decide +kernel)
      have w110 := hW 110 (by decide) (by decide) 2003395685 (by decide +kernel)
      have w111 := hW 111 (by decide) (by decide) 444301539187 (by decide +kernel)
      have w102 := hW 102 (by decide) (by decide) 1668243828 (by decide +kernel)
      have w112 := hW 112 (by decide) (by decide) 1936023917 (by decide +kernel)
      have w120 := hW 120 (by decide) (by decide) 2003792494 (by decide +kernel)
      have w103 := hW 103 (by decide) (by decide) 6909036 (by decide +kernel)
      have w104 := hW 104 (by decide) (by decide) 1700885369 (by decide +kernel)
      have w105 := hW 105 (by decide) (by decide) 1651469428 (by decide +kernel)
      have w106 := hW 106 (by decide) (by decide) 1818848101 (by decide +kernel)
      have w107 := hW 107 (by decide) (by decide) 1918986606 (by decide +kernel)
      have w108 := hW 108 (by decide) (by decide) 1685217655 (by decide +kernel)
      have w116 := hW 116 (by decide) (by decide) 499984590964 (by decide +kernel)
      have w117 := hW 117 (by decide) (by decide) 465726042981 (by decide +kernel)
      have w118 := hW 118 (by decide) (by decide) 495673373300 (by decide +kernel)
      have w119 := hW 119 (by decide) (by decide) 1819242087 (by decide +kernel)
      have w121 := hW 121 (by decide) (by decide) 6578553 (by decide +kernel)
      have w114 := hW 114 (by decide) (by decide) 6385252 (by decide +kernel)
      have w113 := hW 113 (by decide) (by decide) 28530 (by decide +kernel)
      have w115 := hW 115 (by decide) (by decide) 7237492 (by decide +kernel)
      by_cases e101 : tk_k c n i = 101
      · rw [if_pos (w101.mpr e101), if_neg (show ¬ tk_k c n i = 3 by omega)]
      rw [if_neg (fun z => e101 (w101.mp z))]
      by_cases e109 : tk_k c n i = 109
      · rw [if_pos (w109.mpr e109), if_neg (show ¬ tk_k c n i = 3 by omega)]
      rw [if_neg (fun z => e109 (w109.mp z))]
      by_cases e110 : tk_k c n i = 110
      · rw [if_pos (w110.mpr e110), if_neg (show ¬ tk_k c n i = 3 by omega)]
      rw [if_neg (fun z => e110 (w110.mp z))]
      by_cases e111 : tk_k c n i = 111
      · rw [if_pos (w111.mpr e111), if_neg (show ¬ tk_k c n i = 3 by omega)]
      rw [if_neg (fun z => e111 (w111.mp z))]
      by_cases e102 : tk_k c n i = 102
      · rw [if_pos (w102.mpr e102), if_neg (show ¬ tk_k c n i = 3 by omega)]
      rw [if_neg (fun z => e102 (w102.mp z))]
      by_cases e112 : tk_k c n i = 112
      · rw [if_pos (w112.mpr e112), if_neg (show ¬ tk_k c n i = 3 by omega)]
      rw [if_neg (fun z => e112 (w112.mp z))]
      by_cases e120 : tk_k c n i = 120
      · rw [if_pos (w120.mpr e120), if_neg (show ¬ tk_k c n i = 3 by omega)]
      rw [if_neg (fun z => e120 (w120.mp z))]
      by_cases e103 : tk_k c n i = 103
      · rw [if_pos (w103.mpr e103), if_neg (show ¬ tk_k c n i = 3 by omega)]
      rw [if_neg (fun z => e103 (w103.mp z))]
      by_cases e104 : tk_k c n i = 104
      · rw [if_pos (w104.mpr e104), if_neg (show ¬ tk_k c n i = 3 by omega)]
      rw [if_neg (fun z => e104 (w104.mp z))]
      by_cases e105 : tk_k c n i = 105
      · rw [if_pos (w105.mpr e105), if_neg (show ¬ tk_k c n i = 3 by omega)]
      rw [if_neg (fun z => e105 (w105.mp z))]
      by_cases e106 : tk_k c n i = 106
      · rw [if_pos (w106.mpr e106), if_neg (show ¬ tk_k c n i = 3 by omega)]
      rw [if_neg (fun z => e106 (w106.mp z))]
      by_cases e107 : tk_k c n i = 107
      · rw [if_pos (w107.mpr e107), if_neg (show ¬ tk_k c n i = 3 by omega)]
      rw [if_neg (fun z => e107 (w107.mp z))]
      by_cases e108 : tk_k c n i = 108
      · rw [if_pos (w108.mpr e108), if_neg (show ¬ tk_k c n i = 3 by omega)]
      rw [if_neg (fun z => e108 (w108.mp z))]
      by_cases e116 : tk_k c n i = 116
      · rw [if_pos (w116.mpr e116), if_neg (show ¬ tk_k c n i = 3 by omega)]
      rw [if_neg (fun z => e116 (w116.mp z))]
      by_cases e117 : tk_k c n i = 117
      · rw [if_pos (w117.mpr e117), if_neg (show ¬ tk_k c n i = 3 by omega)]
      rw [if_neg (fun z => e117 (w117.mp z))]
      by_cases e118 : tk_k c n i = 118
      · rw [if_pos (w118.mpr e118), if_neg (show ¬ tk_k c n i = 3 by omega)]
      rw [if_neg (fun z => e118 (w118.mp z))]
      by_cases e119 : tk_k c n i = 119
      · rw [if_pos (w119.mpr e119), if_neg (show ¬ tk_k c n i = 3 by omega)]
      rw [if_neg (fun z => e119 (w119.mp z))]
      by_cases e121 : tk_k c n i = 121
      · rw [if_pos (w121.mpr e121), if_neg (show ¬ tk_k c n i = 3 by omega)]
      rw [if_neg (fun z => e121 (w121.mp z))]
      by_cases e114 : tk_k c n i = 114
      · rw [if_pos (w114.mpr e114), if_neg (show ¬ tk_k c n i = 3 by omega)]
      rw [if_neg (fun z => e114 (w114.mp z))]
      by_cases e113 : tk_k c n i = 113
      · rw [if_pos (w113.mpr e113), if_neg (show ¬ tk_k c n i = 3 by omega)]
      rw [if_neg (fun z => e113 (w113.mp z))]
      by_cases e115 : tk_k c n i = 115
      · rw [if_pos (w115.mpr e115), if_neg (show ¬ tk_k c n i = 3 by omega)]
      rw [if_neg (fun z => e115 (w115.mp z))]
      have h3 : tk_k c n i = 3 := by have := t2.mp h; omega
      rw [if_pos h3]
    rw [key]
    by_cases e : tk_k c n i = 3
    · rw [if_pos e, if_pos e, ite01]
    · rw [if_neg e, if_neg e, ite11]
  · rw [if_neg (fun z => h (t1.mp z)), if_neg (show ¬ tk_k c n i = 3 from fun z => h (t2.mpr (Or.inl z)))]
theorem run_at {c : Nat → Nat} {n p k : Nat} (hk : k ≤ lx_c lx_l c n p - p) : (p + k < n ∧ lx_l (c (p + k)) = true) ↔ k < lx_c lx_l c n p - p := by
  have hg := lx_cge lx_l c n p
  constructor
  · intro h
    by_cases e : k = lx_c lx_l c n p - p
    · exfalso
      have := lx_cout lx_l c n p
      rw [show lx_c lx_l c n p = p + k by omega] at this
      exact this h
    · omega
  · intro h
    exact lx_cin (p := p) (by omega) (by omega)
theorem xSame {c : Nat → Nat} {n : Nat} {v : Nat → Int32} {f : Nat → Nat → Int32} (T : TX c n v f) {p q : Nat} (hp : p < 10000) (hq : q < 10000) (h8p : lx_c lx_l c n p - p ≤ 8) (h8q : lx_c lx_l c n q - q ≤ 8) : ∀ (fu k : Nat), k ≤ lx_c lx_l c n p - p → k ≤ lx_c lx_l c n q - q → (∀ i, i < k → c (p + i) = c (q + i)) → 9 - k < fu → ((lx_c lx_l c n p - p = lx_c lx_l c n q - q ∧ ∀ i, i < lx_c lx_l c n p - p → c (p + i) = c (q + i)) → gsX_X9_sameWord_1_L1 NF (nI p) (nI q) v f fu (nI k) = 1) ∧ (¬ (lx_c lx_l c n p - p = lx_c lx_l c n q - q ∧ ∀ i, i < lx_c lx_l c n p - p → c (p + i) = c (q + i)) → gsX_X9_sameWord_1_L1 NF (nI p) (nI q) v f fu (nI k) = 0) := by
  intro fu
  induction fu with
  | zero => intro k _ _ _ h; exact absurd h (Nat.not_lt_zero _)
  | succ fu ih =>
    intro k kp kq hE hf
    simp only [gsX_X9_sameWord_1_L1, nI_add, nI_1, xLet T (show p + k < 2 ^ 31 by omega), xLet T (show q + k < 2 ^ 31 by omega)]
    rw [if_neg (show ¬ (8 : Int32) < nI k from nI_nlt (a := 8) (by omega) (by omega))]
    by_cases ep : p + k < n ∧ lx_l (c (p + k)) = true
    · have lp := (run_at kp).mp ep
      simp only [if_pos ep, ite11, if_true]
      by_cases eq : q + k < n ∧ lx_l (c (q + k)) = true
      · have lq := (run_at kq).mp eq
        simp only [if_pos eq, ite11, if_true]
        rw [nI_clamp (by omega), nI_clamp (by omega), (T.2.2 _ ep.1).2, (T.2.2 _ eq.1).2]
        by_cases e : c (p + k) = c (q + k)
        · rw [if_pos (by rw [e])]
          exact ih (k + 1) (by omega) (by omega) (fun i hi => by
            by_cases z : i = k
            · rw [z]; exact e
            · exact hE i (by omega)) (by omega)
        · rw [if_neg (fun z => e (sb_inj2 (T.2.2 _ ep.1).1 (T.2.2 _ eq.1).1 z))]
          exact ⟨fun z => absurd (z.2 k lp) e, fun _ => rfl⟩
      · have lq : ¬ k < lx_c lx_l c n q - q := fun z => eq ((run_at kq).mpr z)
        simp only [if_neg eq, ite01, if_false]
        exact ⟨fun z => by omega, fun _ => trivial⟩
    · have lp : ¬ k < lx_c lx_l c n p - p := fun z => ep ((run_at kp).mpr z)
      simp only [if_neg ep, ite01, if_false]
      by_cases eq : q + k < n ∧ lx_l (c (q + k)) = true
      · have lq := (run_at kq).mp eq
        simp only [if_pos eq, ite11, if_true]
        exact ⟨fun z => by omega, fun _ => trivial⟩
      · have lq : ¬ k < lx_c lx_l c n q - q := fun z => eq ((run_at kq).mpr z)
        simp only [if_neg eq, ite01, if_false]
        exact ⟨fun _ => trivial, fun z => absurd ⟨by omega, fun i hi => hE i (by omega)⟩ z⟩
def NMx (c : Nat → Nat) (n : Nat) (x : Int32) (y : Int64) : Prop := ∃ p, x = nI p ∧ p < n ∧ lx_c lx_l c n p - p ≤ 8 ∧ y = wvF c (lx_c lx_l c n p - p) p 0
theorem xName1 {c : Nat → Nat} {n i : Nat} {v : Nat → Int32} {f : Nat → Nat → Int32} {g : Nat → Int64} (T : TX c n v f) (hc : ∀ k, k < n → c k < 256) (C : CX c n i v) (h3 : tk_k c n i = 3) {a : Nat} (ha : a < 6) (hn : ∀ j, j < a → NMx c n (f 7 j) (g (0 + j))) : ∀ (fu k : Nat), k ≤ a → a - k < fu → ((∀ j, k ≤ j → j < a → ¬ g (0 + j) = tk_w c n i) → gsX_X6_name_1_L2 NF (nI a) fu (nI k) v f = (match gsX_X9_advance_1 NF v (upd2 f 7 (upd (f 7) a (nI (tk_p c n i)))) with | (v16, f17) => (1, v16, f17))) ∧ (¬ (∀ j, k ≤ j → j < a → ¬ g (0 + j) = tk_w c n i) → gsX_X6_name_1_L2 NF (nI a) fu (nI k) v f = (0, upd (upd v 7 3) 8 (nI (tk_p c n i)), f)) := by
  have hle := (tk_b_le c n i).2
  have hN := T.2.1
  have hS : tS (tK c n (tk_p c n i)) = 1 := by rw [show tK c n (tk_p c n i) = 3 from h3]; rfl
  obtain ⟨t1, t2, t3, t4, t5⟩ := tok_word hc hS
  have h8 : lx_c lx_l c n (tk_p c n i) - tk_p c n i ≤ 8 := by rw [← t3]; exact t4
  have hw : tk_w c n i = wvF c (lx_c lx_l c n (tk_p c n i) - tk_p c n i) (tk_p c n i) 0 := by
    show wvF c (tE c n (tk_p c n i) - tk_p c n i) (tk_p c n i) 0 = _
    rw [t3]
  intro fu
  induction fu with
  | zero => intro k _ h; exact absurd h (Nat.not_lt_zero _)
  | succ fu ih =>
    intro k hk hf
    simp only [gsX_X6_name_1_L2, C.2.1]
    by_cases e : k < a
    · rw [if_neg (nI_ge e (by omega)), if_neg (show ¬ (6 : Int32) ≤ nI k from nI_ge (b := 6) (by omega) (by omega)), nI_clamp (by omega), nI_1]
      obtain ⟨p, p1, p2, p3, p4⟩ := hn k e
      have hs := xSame (NF := NF) T (p := p) (q := tk_p c n i) (by omega) (by omega) p3 h8 (4294967296 + NF) 0 (Nat.zero_le _) (Nat.zero_le _) (fun i hi => absurd hi (by omega)) (by omega)
      have hiff := wv_inj (c := c) (d := c) (p := p) (q := tk_p c n i) p3 h8 run_l run_l
      rw [← p4, ← hw] at hiff
      have hsw : gsX_X9_sameWord_1 NF (nI p) (nI (tk_p c n i)) v f = gsX_X9_sameWord_1_L1 NF (nI p) (nI (tk_p c n i)) v f (4294967296 + NF) (nI 0) := rfl
      rw [p1, hsw]
      by_cases q : g (0 + k) = tk_w c n i
      · rw [hs.1 (hiff.mp q), if_pos rfl]
        refine ⟨fun z => absurd q (z k (Nat.le_refl _) e), fun _ => ?_⟩
        simp only [gsX_X6_refuseAs_1, C.2.1, ite01]
      · rw [hs.2 (fun z => q (hiff.mpr z)), if_neg (by decide)]
        obtain ⟨b1, b2⟩ := ih (k + 1) (by omega) (by omega)
        have hh : (∀ j, k ≤ j → j < a → ¬ g (0 + j) = tk_w c n i) ↔ (∀ j, k + 1 ≤ j → j < a → ¬ g (0 + j) = tk_w c n i) := by
          constructor
          · intro z j h1 h2; exact z j (by omega) h2
          · intro z j h1 h2
            by_cases y : j = k
            · rw [y]; exact q
            · exact z j (by omega) h2
        rw [hh]
        exact ⟨b1, b2⟩
    · rw [if_pos (nI_le (by omega) (by omega)), if_neg (nI_pos (by omega)), if_neg (show ¬ (6 : Int32) ≤ nI a from nI_ge (b := 6) (by omega) (by omega)), nI_clamp (by omega)]
      exact ⟨fun _ => rfl, fun z => absurd (fun j h1 h2 => absurd h2 (by omega)) z⟩
theorem xName2 {c : Nat → Nat} {n i : Nat} {v : Nat → Int32} {f : Nat → Nat → Int32} {g : Nat → Int64} (T : TX c n v f) (hc : ∀ k, k < n → c k < 256) (C : CX c n i v) (h3 : tk_k c n i = 3) {a : Nat} (ha : a < 6) (hn : ∀ j, j < a → NMx c n (f 8 j) (g (6 + j))) : ∀ (fu k : Nat), k ≤ a → a - k < fu → ((∀ j, k ≤ j → j < a → ¬ g (6 + j) = tk_w c n i) → gsX_X6_name_2_L2 NF (nI a) fu (nI k) v f = (match gsX_X9_advance_1 NF v (upd2 f 8 (upd (f 8) a (nI (tk_p c n i)))) with | (v16, f17) => (1, v16, f17))) ∧ (¬ (∀ j, k ≤ j → j < a → ¬ g (6 + j) = tk_w c n i) → gsX_X6_name_2_L2 NF (nI a) fu (nI k) v f = (0, upd (upd v 7 3) 8 (nI (tk_p c n i)), f)) := by
  have hle := (tk_b_le c n i).2
  have hN := T.2.1
  have hS : tS (tK c n (tk_p c n i)) = 1 := by rw [show tK c n (tk_p c n i) = 3 from h3]; rfl
  obtain ⟨t1, t2, t3, t4, t5⟩ := tok_word hc hS
  have h8 : lx_c lx_l c n (tk_p c n i) - tk_p c n i ≤ 8 := by rw [← t3]; exact t4
  have hw : tk_w c n i = wvF c (lx_c lx_l c n (tk_p c n i) - tk_p c n i) (tk_p c n i) 0 := by
    show wvF c (tE c n (tk_p c n i) - tk_p c n i) (tk_p c n i) 0 = _
    rw [t3]
  intro fu
  induction fu with
  | zero => intro k _ h; exact absurd h (Nat.not_lt_zero _)
  | succ fu ih =>
    intro k hk hf
    simp only [gsX_X6_name_2_L2, C.2.1]
    by_cases e : k < a
    · rw [if_neg (nI_ge e (by omega)), if_neg (show ¬ (6 : Int32) ≤ nI k from nI_ge (b := 6) (by omega) (by omega)), nI_clamp (by omega), nI_1]
      obtain ⟨p, p1, p2, p3, p4⟩ := hn k e
      have hs := xSame (NF := NF) T (p := p) (q := tk_p c n i) (by omega) (by omega) p3 h8 (4294967296 + NF) 0 (Nat.zero_le _) (Nat.zero_le _) (fun i hi => absurd hi (by omega)) (by omega)
      have hiff := wv_inj (c := c) (d := c) (p := p) (q := tk_p c n i) p3 h8 run_l run_l
      rw [← p4, ← hw] at hiff
      have hsw : gsX_X9_sameWord_1 NF (nI p) (nI (tk_p c n i)) v f = gsX_X9_sameWord_1_L1 NF (nI p) (nI (tk_p c n i)) v f (4294967296 + NF) (nI 0) := rfl
      rw [p1, hsw]
      by_cases q : g (6 + k) = tk_w c n i
      · rw [hs.1 (hiff.mp q), if_pos rfl]
        refine ⟨fun z => absurd q (z k (Nat.le_refl _) e), fun _ => ?_⟩
        simp only [gsX_X6_refuseAs_1, C.2.1, ite01]
      · rw [hs.2 (fun z => q (hiff.mpr z)), if_neg (by decide)]
        obtain ⟨b1, b2⟩ := ih (k + 1) (by omega) (by omega)
        have hh : (∀ j, k ≤ j → j < a → ¬ g (6 + j) = tk_w c n i) ↔ (∀ j, k + 1 ≤ j → j < a → ¬ g (6 + j) = tk_w c n i) := by
          constructor
          · intro z j h1 h2; exact z j (by omega) h2
          · intro z j h1 h2
            by_cases y : j = k
            · rw [y]; exact q
            · exact z j (by omega) h2
        rw [hh]
        exact ⟨b1, b2⟩
    · rw [if_pos (nI_le (by omega) (by omega)), if_neg (nI_pos (by omega)), if_neg (show ¬ (6 : Int32) ≤ nI a from nI_ge (b := 6) (by omega) (by omega)), nI_clamp (by omega)]
      exact ⟨fun _ => rfl, fun z => absurd (fun j h1 h2 => absurd h2 (by omega)) z⟩
end
end
section
section
variable {NF : Nat}
theorem yIsN {c : Nat → Nat} {n i : Nat} {v1 : Nat → Int32} {f1 : Nat → Nat → Int32} {w1 : Int64} {g : Nat → Int64} (T1 : TY c n v1 f1) (C1 : CY c n i v1 w1) (hf : v1 1 = 0) (h3 : tk_k c n i = 3) {a base : Nat} (ha : a < 6) (hb : base ≤ 6) : ∀ (fu k : Nat), k ≤ a → a - k + 1 < fu → ((∀ j, k ≤ j → j < a → ¬ g (base + j) = tk_w c n i) → gsY_X11_newName_1_L14 NF (nI base) (nI a) fu (nI k) v1 f1 w1 g = gsY_X11_token_1 NF v1 f1 w1 (vp_updL g (base + a) (tk_w c n i))) ∧ (¬ (∀ j, k ≤ j → j < a → ¬ g (base + j) = tk_w c n i) → gsY_X11_newName_1_L14 NF (nI base) (nI a) fu (nI k) v1 f1 w1 g = (upd (upd v1 1 3) 2 (nI (tk_p c n i)), f1, w1, g)) := by
  have hw : w1 = tk_w c n i := C1.2.2.2.2 (by rw [h3]; rfl)
  intro fu
  induction fu with
  | zero => intro k _ h; exact absurd h (Nat.not_lt_zero _)
  | succ fu ih =>
    intro k hk hf'
    simp only [gsY_X11_newName_1_L14, hf, nI_add, nI_1]
    by_cases e : k < a
    · rw [if_neg (nI_ge e (by omega)), if_pos trivial, nI_clamp (by omega), hw]
      by_cases q : g (base + k) = tk_w c n i
      · rw [if_pos (lgc.mpr q)]
        refine ⟨fun z => absurd q (z k (Nat.le_refl _) e), fun _ => ?_⟩
        have ew : gsY_X11_wrong_1 NF 3 v1 f1 (tk_w c n i) g = (upd (upd v1 1 3) 2 (nI (tk_p c n i)), f1, tk_w c n i, g) := by
          simp only [gsY_X11_wrong_1, hf, C1.1, C1.2.1]
          rw [if_pos (show (0 : Int32) ≤ 0 by decide), if_neg (show ¬ nI (tS (tk_k c n i)) = 3 by rw [h3]; decide)]
        rw [ew]
        obtain ⟨fu, rfl⟩ : ∃ z, fu = z + 1 := ⟨fu - 1, by omega⟩
        show gsY_X11_newName_1_L14 NF (nI base) (nI a) (fu + 1) (nI (k + 1)) (upd (upd v1 1 3) 2 (nI (tk_p c n i))) f1 (tk_w c n i) g = _
        have e3 : upd (upd v1 1 3) 2 (nI (tk_p c n i)) 1 = 3 := (pk_un (by decide)).trans pk_us
        simp only [gsY_X11_newName_1_L14, e3]
        rw [if_neg (show ¬ (3 : Int32) ≤ 0 by decide), if_neg (show ¬ (3 : Int32) = 0 by decide)]
        split <;> rfl
      · rw [if_neg (fun z => q (lgc.mp z))]
        obtain ⟨b1, b2⟩ := ih (k + 1) (by omega) (by omega)
        have hh : (∀ j, k ≤ j → j < a → ¬ g (base + j) = tk_w c n i) ↔ (∀ j, k + 1 ≤ j → j < a → ¬ g (base + j) = tk_w c n i) := by
          constructor
          · intro z j h1 h2; exact z j (by omega) h2
          · intro z j h1 h2
            by_cases y : j = k
            · rw [y]; exact q
            · exact z j (by omega) h2
        rw [hh]
        rw [hw] at b1 b2
        exact ⟨b1, b2⟩
    · rw [if_pos (nI_le (by omega) (by omega)), if_pos (show (0 : Int32) ≤ 0 by decide), nI_clamp (by omega), hw]
      exact ⟨fun _ => rfl, fun z => absurd (fun j h1 h2 => absurd h2 (by omega)) z⟩
theorem yIsN_f {v1 : Nat → Int32} {f1 : Nat → Nat → Int32} {w1 : Int64} {g : Nat → Int64} {s : Nat} (h1 : v1 1 = nI s) (h0 : 0 < s) (hs : s < 100) (p q l : Int32) (fu : Nat) : gsY_X11_newName_1_L80 NF p q (fu + 1) l v1 f1 w1 g = (v1, f1, w1, g) := by
  have e1 : ¬ nI s ≤ 0 := nI_nle h0 (by omega)
  have e2 : ¬ nI s = 0 := nI_ne0 h0 (by omega)
  simp only [gsY_X11_newName_1_L80, h1, if_neg e1, if_neg e2]
  split <;> rfl
theorem namePair1 {c : Nat → Nat} {n i : Nat} {v : Nat → Int32} {f : Nat → Nat → Int32} {v1 : Nat → Int32} {f1 : Nat → Nat → Int32} {w1 : Int64} {g : Nat → Int64} (hc : ∀ k, k < n → c k < 256) (h : TP c n i v f v1 f1 w1) (hk1 : tk_k c n i ≠ 1) {a : Nat} (ha : a < 6) (hn : ∀ j, j < a → NMx c n (f 7 j) (g (0 + j))) :
    (∃ (v' v1' : Nat → Int32) (w1' : Int64) (p : Nat), (match gsX_X9_advance_1 NF v f with | (v3, f4) => gsX_X6_name_1 NF (nI a) v3 f4) = (1, v', upd2 f 7 (upd (f 7) a (nI p))) ∧ gsY_X11_newName_1 NF 0 (nI a) v1 f1 w1 g = (v1', f1, w1', vp_updL g (0 + a) (tk_w c n (i + 1))) ∧ TP c n (i + 2) v' (upd2 f 7 (upd (f 7) a (nI p))) v1' f1 w1' ∧ NMx c n (nI p) (tk_w c n (i + 1)) ∧ X4 v v' ∧ Y4 v1 v1') ∨
    (∃ (v' v1' : Nat → Int32) (w1' : Int64) (g' : Nat → Int64), (match gsX_X9_advance_1 NF v f with | (v3, f4) => gsX_X6_name_1 NF (nI a) v3 f4) = (0, v', f) ∧ gsY_X11_newName_1 NF 0 (nI a) v1 f1 w1 g = (v1', f1, w1', g') ∧ FP c n v v' v1 v1') := by
  obtain ⟨v2, v3, w3, a1, a2, a3, a4, a5⟩ := TP.adv (NF := NF) (g := g) h hk1
  have hk := tk_lt hc (i + 1)
  have a3' := a3
  obtain ⟨T, T1, C, C1, hf⟩ := a3
  have eX : (match gsX_X9_advance_1 NF v f with | (v3, f4) => gsX_X6_name_1 NF (nI a) v3 f4) = gsX_X6_name_1 NF (nI a) v2 f := by rw [a1]
  have eY : gsY_X11_newName_1 NF 0 (nI a) v1 f1 w1 g = (if tk_k c n (i + 1) = 3 then gsY_X11_newName_1_L14 NF (nI 0) (nI a) (4294967296 + NF) (nI 0) v3 f1 w3 g else (match gsY_X11_wrong_1 NF 2 v3 f1 w3 g with | (v70, f71, w72, g73) => gsY_X11_newName_1_L80 NF 0 (nI a) (4294967296 + NF) 0 v70 f71 w72 g73)) := by
    unfold gsY_X11_newName_1
    rw [a2]
    simp only [yIsName hc C1]
    by_cases e : tk_k c n (i + 1) = 3
    · rw [if_pos e, if_pos e, ite11]; rfl
    · rw [if_neg e, if_neg e, ite01]
  rw [eX, eY]
  unfold gsX_X6_name_1
  rw [C.1]
  by_cases e : tk_k c n (i + 1) = 3
  · rw [if_pos e, if_pos (by rw [e]; rfl)]
    obtain ⟨b1, b2⟩ := xName1 (NF := NF) (g := g) T hc C e ha hn (4294967296 + NF) 0 (Nat.zero_le _) (by omega)
    obtain ⟨d1, d2⟩ := yIsN (NF := NF) (g := g) T1 C1 hf e (base := 0) ha (by decide) (4294967296 + NF) 0 (Nat.zero_le _) (by omega)
    by_cases q : ∀ j, 0 ≤ j → j < a → ¬ g (0 + j) = tk_w c n (i + 1)
    · have hS : tS (tK c n (tk_p c n (i + 1))) = 1 := by rw [show tK c n (tk_p c n (i + 1)) = 3 from e]; rfl
      obtain ⟨t1, t2, t3, t4, t5⟩ := tok_word hc hS
      have Tq : TP c n (i + 1) v2 (upd2 f 7 (upd (f 7) a (nI (tk_p c n (i + 1))))) v3 f1 w3 := ⟨T.of rfl rfl, T1, C, C1, hf⟩
      obtain ⟨v4, v5, w5, k1, k2, k3, k4, k5⟩ := TP.adv (NF := NF) (g := vp_updL g (0 + a) (tk_w c n (i + 1))) Tq (by omega)
      refine Or.inl ⟨v4, v5, w5, tk_p c n (i + 1), ?_, ?_, k3, ⟨_, rfl, t1, by rw [← t3]; exact t4, ?_⟩, a4.tr k4, a5.tr k5⟩
      · rw [show gsX_X6_name_1_L2 NF (nI a) (4294967296 + NF) 0 v2 f = _ from b1 q, k1]
      · rw [d1 q, k2]
      · show wvF c (tE c n (tk_p c n (i + 1)) - tk_p c n (i + 1)) (tk_p c n (i + 1)) 0 = _
        rw [t3]
    · refine Or.inr ⟨_, _, w3, g, show gsX_X6_name_1_L2 NF (nI a) (4294967296 + NF) 0 v2 f = _ from b2 q, d2 q, FP.tr a4 a5 ⟨3, i + 1, by decide, by decide, (pk_un (by decide)).trans pk_us, (pk_un (by decide)).trans pk_us, pk_us, pk_us, fun q q2 q3 q4 q5 q7 q8 => (pk_un q8).trans (pk_un q7), fun q q1 q2 q3 q5 q6 q7 => (pk_un q2).trans (pk_un q1)⟩⟩
  · obtain ⟨v4, v5, k1, k2, k3, s, s0, s1, s2⟩ := TP.ref (NF := NF) (g := g) hc a3'
    obtain ⟨M, hM⟩ : ∃ M, 4294967296 + NF = M + 1 := ⟨4294967295 + NF, by omega⟩
    rw [if_neg e, if_neg (nlit 3 3 rfl (by omega) (by decide) e), k1, k2]
    refine Or.inr ⟨v4, v5, w3, g, ite01, ?_, FP.tr a4 a5 k3⟩
    show gsY_X11_newName_1_L80 NF 0 (nI a) (4294967296 + NF) 0 v5 f1 w3 g = _
    rw [hM, yIsN_f s2 s0 s1]
theorem namePair2 {c : Nat → Nat} {n i : Nat} {v : Nat → Int32} {f : Nat → Nat → Int32} {v1 : Nat → Int32} {f1 : Nat → Nat → Int32} {w1 : Int64} {g : Nat → Int64} (hc : ∀ k, k < n → c k < 256) (h : TP c n i v f v1 f1 w1) (hk1 : tk_k c n i ≠ 1) {a : Nat} (ha : a < 6) (hn : ∀ j, j < a → NMx c n (f 8 j) (g (6 + j))) :
    (∃ (v' v1' : Nat → Int32) (w1' : Int64) (p : Nat), (match gsX_X9_advance_1 NF v f with | (v3, f4) => gsX_X6_name_2 NF (nI a) v3 f4) = (1, v', upd2 f 8 (upd (f 8) a (nI p))) ∧ gsY_X11_newName_1 NF 6 (nI a) v1 f1 w1 g = (v1', f1, w1', vp_updL g (6 + a) (tk_w c n (i + 1))) ∧ TP c n (i + 2) v' (upd2 f 8 (upd (f 8) a (nI p))) v1' f1 w1' ∧ NMx c n (nI p) (tk_w c n (i + 1)) ∧ X4 v v' ∧ Y4 v1 v1') ∨
    (∃ (v' v1' : Nat → Int32) (w1' : Int64) (g' : Nat → Int64), (match gsX_X9_advance_1 NF v f with | (v3, f4) => gsX_X6_name_2 NF (nI a) v3 f4) = (0, v', f) ∧ gsY_X11_newName_1 NF 6 (nI a) v1 f1 w1 g = (v1', f1, w1', g') ∧ FP c n v v' v1 v1') := by
  obtain ⟨v2, v3, w3, a1, a2, a3, a4, a5⟩ := TP.adv (NF := NF) (g := g) h hk1
  have hk := tk_lt hc (i + 1)
  have a3' := a3
  obtain ⟨T, T1, C, C1, hf⟩ := a3
  have eX : (match gsX_X9_advance_1 NF v f with | (v3, f4) => gsX_X6_name_2 NF (nI a) v3 f4) = gsX_X6_name_2 NF (nI a) v2 f := by rw [a1]
  have eY : gsY_X11_newName_1 NF 6 (nI a) v1 f1 w1 g = (if tk_k c n (i + 1) = 3 then gsY_X11_newName_1_L14 NF (nI 6) (nI a) (4294967296 + NF) (nI 0) v3 f1 w3 g else (match gsY_X11_wrong_1 NF 2 v3 f1 w3 g with | (v70, f71, w72, g73) => gsY_X11_newName_1_L80 NF 6 (nI a) (4294967296 + NF) 0 v70 f71 w72 g73)) := by
    unfold gsY_X11_newName_1
    rw [a2]
    simp only [yIsName hc C1]
    by_cases e : tk_k c n (i + 1) = 3
    · rw [if_pos e, if_pos e, ite11]; rfl
    · rw [if_neg e, if_neg e, ite01]
  rw [eX, eY]
  unfold gsX_X6_name_2
  rw [C.1]
  by_cases e : tk_k c n (i + 1) = 3
  · rw [if_pos e, if_pos (by rw [e]; rfl)]
    obtain ⟨b1, b2⟩ := xName2 (NF := NF) (g := g) T hc C e ha hn (4294967296 + NF) 0 (Nat.zero_le _) (by omega)
    obtain ⟨d1, d2⟩ := yIsN (NF := NF) (g := g) T1 C1 hf e (base := 6) ha (by decide) (4294967296 + NF) 0 (Nat.zero_le _) (by omega)
    by_cases q : ∀ j, 0 ≤ j → j < a → ¬ g (6 + j) = tk_w c n (i + 1)
    · have hS : tS (tK c n (tk_p c n (i + 1))) = 1 := by rw [show tK c n (tk_p c n (i + 1)) = 3 from e]; rfl
      obtain ⟨t1, t2, t3, t4, t5⟩ := tok_word hc hS
      have Tq : TP c n (i + 1) v2 (upd2 f 8 (upd (f 8) a (nI (tk_p c n (i + 1))))) v3 f1 w3 := ⟨T.of rfl rfl, T1, C, C1, hf⟩
      obtain ⟨v4, v5, w5, k1, k2, k3, k4, k5⟩ := TP.adv (NF := NF) (g := vp_updL g (6 + a) (tk_w c n (i + 1))) Tq (by omega)
      refine Or.inl ⟨v4, v5, w5, tk_p c n (i + 1), ?_, ?_, k3, ⟨_, rfl, t1, by rw [← t3]; exact t4, ?_⟩, a4.tr k4, a5.tr k5⟩
      · rw [show gsX_X6_name_2_L2 NF (nI a) (4294967296 + NF) 0 v2 f = _ from b1 q, k1]
      · rw [d1 q, k2]
      · show wvF c (tE c n (tk_p c n (i + 1)) - tk_p c n (i + 1)) (tk_p c n (i + 1)) 0 = _
        rw [t3]
    · refine Or.inr ⟨_, _, w3, g, show gsX_X6_name_2_L2 NF (nI a) (4294967296 + NF) 0 v2 f = _ from b2 q, d2 q, FP.tr a4 a5 ⟨3, i + 1, by decide, by decide, (pk_un (by decide)).trans pk_us, (pk_un (by decide)).trans pk_us, pk_us, pk_us, fun q q2 q3 q4 q5 q7 q8 => (pk_un q8).trans (pk_un q7), fun q q1 q2 q3 q5 q6 q7 => (pk_un q2).trans (pk_un q1)⟩⟩
  · obtain ⟨v4, v5, k1, k2, k3, s, s0, s1, s2⟩ := TP.ref (NF := NF) (g := g) hc a3'
    obtain ⟨M, hM⟩ : ∃ M, 4294967296 + NF = M + 1 := ⟨4294967295 + NF, by omega⟩
    rw [if_neg e, if_neg (nlit 3 3 rfl (by omega) (by decide) e), k1, k2]
    refine Or.inr ⟨v4, v5, w3, g, ite01, ?_, FP.tr a4 a5 k3⟩
    show gsY_X11_newName_1_L80 NF 6 (nI a) (4294967296 + NF) 0 v5 f1 w3 g = _
    rw [hM, yIsN_f s2 s0 s1]
end
end
section
section
variable {NF : Nat}
theorem upd2_2 {f : Nat → Nat → Int32} {q : Nat} {a b : Nat → Int32} : upd2 (upd2 f q a) q b = upd2 f q b := by
  funext j
  unfold upd2
  by_cases e : j = q
  · rw [if_pos e, if_pos e]
  · rw [if_neg e, if_neg e, if_neg e]
theorem addManX {v : Nat → Int32} {f : Nat → Nat → Int32} {a : Nat} {x y z : Int32} (h9 : v 9 = nI a) (ha : a < 6) : gsX_X7_addMan_1 NF x y z v f = (upd v 9 (nI (a + 1)), upd2 f 1 (upd (upd (upd (f 1) a x) (6 + a) y) (12 + a) z)) := by
  simp only [gsX_X7_addMan_1, h9]
  rw [if_neg (show ¬ (6 : Int32) ≤ nI a from nI_ge (b := 6) ha (by omega)), nI_1, show (0 : Int32) + nI a = nI (0 + a) from nI_add 0 a, show (6 : Int32) + nI a = nI (6 + a) from nI_add 6 a, show (12 : Int32) + nI a = nI (12 + a) from nI_add 12 a, nI_clamp (by omega), nI_clamp (by omega), nI_clamp (by omega), upd2_2, upd2_2, Nat.zero_add]
  rfl
theorem addCoatX {v : Nat → Int32} {f : Nat → Nat → Int32} {a : Nat} {x y z u : Int32} (h9 : v 10 = nI a) (ha : a < 6) : gsX_X7_addCoat_1 NF x y z u v f = (upd v 10 (nI (a + 1)), upd2 f 2 (upd (upd (upd (upd (f 2) a x) (6 + a) y) (12 + a) z) (18 + a) u)) := by
  simp only [gsX_X7_addCoat_1, h9]
  rw [if_neg (show ¬ (6 : Int32) ≤ nI a from nI_ge (b := 6) ha (by omega)), nI_1, show (0 : Int32) + nI a = nI (0 + a) from nI_add 0 a, show (6 : Int32) + nI a = nI (6 + a) from nI_add 6 a, show (12 : Int32) + nI a = nI (12 + a) from nI_add 12 a, show (18 : Int32) + nI a = nI (18 + a) from nI_add 18 a, nI_clamp (by omega), nI_clamp (by omega), nI_clamp (by omega), nI_clamp (by omega), upd2_2, upd2_2, upd2_2, Nat.zero_add]
  rfl
theorem opt_f {v1 : Nat → Int32} {f1 : Nat → Nat → Int32} {w1 : Int64} {g : Nat → Int64} {j : Int64} {mo : Int32} {s : Nat} (h1 : v1 1 = nI s) (h0 : 0 < s) (hs : s < 100) : gsY_X11_option_1 NF j mo v1 f1 w1 g = (0, v1, f1, w1, g) := by
  simp only [gsY_X11_option_1, h1]
  rw [if_neg (nI_ne0 h0 (by omega))]
theorem optPair {c : Nat → Nat} {n i : Nat} {v : Nat → Int32} {f : Nat → Nat → Int32} {v1 : Nat → Int32} {f1 : Nat → Nat → Int32} {w1 : Int64} {g : Nat → Int64} (hc : ∀ k, k < n → c k < 256) (h : TP c n i v f v1 f1 w1) {k : Nat} (hk1 : 101 ≤ k) (hk2 : k ≤ 121) {j : Int64} (hj : j = wC k) (mo : Int32) (hmo : (0 : Int32) ≤ mo) :
    (∃ (v' v1' : Nat → Int32) (w1' : Int64) (x : Int32) (i' : Nat), (if v 2 = nI k then gsX_X6_labelled_1 NF (nI k) mo v f else (0, v, f)) = (x, v', f) ∧ gsY_X11_option_1 NF j mo v1 f1 w1 g = (x, v1', f1, w1', g) ∧ TP c n i' v' f v1' f1 w1' ∧ (0 ≤ x ∧ x ≤ mo) ∧ X4 v v' ∧ Y4 v1 v1') ∨
    (∃ (v' v1' : Nat → Int32) (w1' : Int64) (y : Int32), (if v 2 = nI k then gsX_X6_labelled_1 NF (nI k) mo v f else (0, v, f)) = (-1, v', f) ∧ gsY_X11_option_1 NF j mo v1 f1 w1 g = (y, v1', f1, w1', g) ∧ FP c n v v' v1 v1') := by
  have hk := tk_lt hc i
  have h' := h
  obtain ⟨T, T1, C, C1, hf⟩ := h
  simp only [gsY_X11_option_1, hf, yIsW hc C1 hk1 hk2 hj, C.1]
  rw [if_pos trivial]
  by_cases e : tk_k c n i = k
  · rw [if_pos e, ite11, if_pos (by rw [e])]
    rcases labPair (NF := NF) (g := g) hc h' hk1 hk2 hj mo with ⟨v2, v3, w3, x, b1, b2, b3, b4, b5, b6⟩ | ⟨v2, v3, w3, y, b1, b2, b3⟩
    · exact Or.inl ⟨v2, v3, w3, x, i + 2, b1, b2, b3, b4, b5, b6⟩
    · exact Or.inr ⟨v2, v3, w3, y, b1, b2, b3⟩
  · rw [if_neg e, ite01, if_neg (fun z => e ((nI_eq (by omega) (by omega)).mp z))]
    exact Or.inl ⟨v, v1, w1, 0, i, rfl, rfl, h', ⟨by decide, hmo⟩, fun _ _ _ _ _ => rfl, fun _ _ _ _ _ => rfl⟩
def MB (x y z : Int32) : Prop := (0 ≤ x ∧ x ≤ 99) ∧ (0 ≤ y ∧ y ≤ 99) ∧ (0 ≤ z ∧ z ≤ 9)
def CB (x y z u : Int32) : Prop := (0 ≤ x ∧ x ≤ 99) ∧ (0 ≤ y ∧ y ≤ 99) ∧ (0 ≤ z ∧ z ≤ 20) ∧ (0 ≤ u ∧ u ≤ 99)
def FRX (v : Nat → Int32) (f : Nat → Nat → Int32) (v' : Nat → Int32) (f' : Nat → Nat → Int32) : Prop := (∀ k, (k ≤ 1 ∨ 18 ≤ k) → v' k = v k) ∧ ∀ q, (q = 0 ∨ q = 5 ∨ q = 6 ∨ 9 ≤ q) → f' q = f q
def FRY (v : Nat → Int32) (f : Nat → Nat → Int32) (v' : Nat → Int32) (f' : Nat → Nat → Int32) : Prop := (∀ k, (k = 0 ∨ k = 4 ∨ k = 9 ∨ k = 12 ∨ k = 16 ∨ (24 ≤ k ∧ k ≤ 29) ∨ 35 ≤ k) → v' k = v k) ∧ ∀ q, (q = 0 ∨ q = 4 ∨ q = 5 ∨ q = 7 ∨ q = 8 ∨ 16 ≤ q) → f' q = f q
def LF (c : Nat → Nat) (n : Nat) (v v1 : Nat → Int32) : Prop := ∃ s j, 0 < s ∧ s < 100 ∧ v 7 = nI s ∧ v1 1 = nI s ∧ v 8 = nI (tk_p c n j) ∧ v1 2 = nI (tk_p c n j)
theorem FP.lf {c : Nat → Nat} {n : Nat} {v v' v1 v1' : Nat → Int32} (h : FP c n v v' v1 v1') : LF c n v' v1' := by
  obtain ⟨s, j, a, b, d, e, z, y, _⟩ := h
  exact ⟨s, j, a, b, d, e, z, y⟩
theorem FP.s {c : Nat → Nat} {n : Nat} {v v' v1 v1' : Nat → Int32} (h : FP c n v v' v1 v1') : ∃ s, 0 < s ∧ s < 100 ∧ v1' 1 = nI s := by
  obtain ⟨s, j, a, b, d, e, _⟩ := h
  exact ⟨s, a, b, e⟩
theorem FP.x {c : Nat → Nat} {n : Nat} {v v' v1 v1' : Nat → Int32} (h : FP c n v v' v1 v1') : X6 v v' := by
  obtain ⟨s, j, a, b, d, e, z, y, x1, y1⟩ := h
  exact x1
theorem FP.y {c : Nat → Nat} {n : Nat} {v v' v1 v1' : Nat → Int32} (h : FP c n v v' v1 v1') : Y6 v1 v1' := by
  obtain ⟨s, j, a, b, d, e, z, y, x1, y1⟩ := h
  exact y1
theorem X6.fr {v v' : Nat → Int32} (h : X6 v v') : ∀ k, (k ≤ 1 ∨ 18 ≤ k) → v' k = v k := fun k hk => h k (by omega) (by omega) (by omega) (by omega) (by omega) (by omega)
theorem X4.x6 {v v' : Nat → Int32} (h : X4 v v') : X6 v v' := fun k a b d e _ _ => h k a b d e
theorem Y4.y6 {v v' : Nat → Int32} (h : Y4 v v') : Y6 v v' := fun k _ _ a b d e => h k a b d e
theorem Y6.fr {v v' : Nat → Int32} (h : Y6 v v') : ∀ k, (k = 0 ∨ k = 4 ∨ k = 9 ∨ k = 12 ∨ k = 16 ∨ (24 ≤ k ∧ k ≤ 29) ∨ 35 ≤ k) → v' k = v k := fun k hk => h k (by omega) (by omega) (by omega) (by omega) (by omega) (by omega)
theorem u2n {f : Nat → Nat → Int32} {q j : Nat} {g : Nat → Int32} (h : j ≠ q) : upd2 f q g j = f j := if_neg h
theorem u2s {f : Nat → Nat → Int32} {q : Nat} {g : Nat → Int32} : upd2 f q g q = g := if_pos rfl
theorem manPair {c : Nat → Nat} {n i : Nat} {v : Nat → Int32} {f : Nat → Nat → Int32} {v1 : Nat → Int32} {f1 : Nat → Nat → Int32} {w1 : Int64} {g : Nat → Int64} (hc : ∀ k, k < n → c k < 256) (h : TP c n i v f v1 f1 w1) (hk1 : tk_k c n i ≠ 1) {a : Nat} (ha : a < 6) (h9 : v 9 = nI a) (h17 : v1 17 = nI a) (hn : ∀ j, j < a → NMx c n (f 7 j) (g (0 + j))) :
    (∃ (v' v1' : Nat → Int32) (w1' : Int64) (i' p : Nat) (x y z : Int32), gsX_X6_manLine_1 NF v f = (1, upd v' 9 (nI (a + 1)), upd2 (upd2 f 7 (upd (f 7) a (nI p))) 1 (upd (upd (upd (f 1) a x) (6 + a) y) (12 + a) z)) ∧ gsY_X11_readMan_1 NF v1 f1 w1 g = (upd v1' 17 (nI (a + 1)), upd2 (upd2 (upd2 f1 9 (upd (f1 9) a x)) 10 (upd (f1 10) a y)) 11 (upd (f1 11) a z), w1', vp_updL g (0 + a) (tk_w c n (i + 1))) ∧ TP c n i' v' f v1' f1 w1' ∧ NMx c n (nI p) (tk_w c n (i + 1)) ∧ X4 v v' ∧ Y4 v1 v1' ∧ MB x y z) ∨
    (∃ (v' v1' : Nat → Int32) (f' f1' : Nat → Nat → Int32) (w1' : Int64) (g' : Nat → Int64), gsX_X6_manLine_1 NF v f = (0, v', f') ∧ gsY_X11_readMan_1 NF v1 f1 w1 g = (v1', f1', w1', g') ∧ FP c n v v' v1 v1' ∧ (∀ q, q ≠ 7 → f' q = f q) ∧ (∀ q, q ≠ 9 → q ≠ 10 → q ≠ 11 → f1' q = f1 q)) := by
  obtain ⟨va, va1, wa, a1, a2, a3, a4, a5⟩ := TP.adv (NF := NF) (g := g) h hk1
  have hN := namePair1 (NF := NF) (g := g) hc h hk1 ha hn
  rw [a1] at hN
  simp only [gsX_X6_manLine_1, gsY_X11_readMan_1, h9, h17, a1, nI_1, nI_clamp (show a < 2 ^ 31 by omega)]
  rw [if_pos (show nI a < (6 : Int32) from nI_lt (b := 6) ha (by omega))]
  have fq : ∀ (A B D : Nat → Int32) (F : Nat → Nat → Int32) q, q ≠ 9 → q ≠ 10 → q ≠ 11 → upd2 (upd2 (upd2 F 9 A) 10 B) 11 D q = F q := fun A B D F q q9 q10 q11 => (u2n q11).trans ((u2n q10).trans (u2n q9))
  rcases hN with ⟨vb, vb1, wb, p, b1, b2, b3, b4, b5, b6⟩ | ⟨vb, vb1, wb, gb, b1, b2, b3⟩
  · have b1 : gsX_X6_name_1 NF (nI a) va f = (1, vb, upd2 f 7 (upd (f 7) a (nI p))) := b1
    have b2 : gsY_X11_newName_1 NF 0 (nI a) v1 f1 w1 g = (vb1, f1, wb, vp_updL g (0 + a) (tk_w c n (i + 1))) := b2
    simp only [b1, b2, ite11]
    generalize hF : upd2 f 7 (upd (f 7) a (nI p)) = F at b3
    generalize hG : vp_updL g (0 + a) (tk_w c n (i + 1)) = G
    have hF1 : F 1 = f 1 := by rw [← hF]; rfl
    have hFq : ∀ q, q ≠ 7 → F q = f q := fun q hq => by rw [← hF]; exact u2n hq
    rcases labPair (NF := NF) (g := G) hc b3 (k := 109) (by decide) (by decide) (j := 1952541804) (by decide +kernel) 99 with ⟨vc, vc1, wc, x, c1, c2, c3, c4, c5, c6⟩ | ⟨vc, vc1, wc, y, c1, c2, c3⟩
    · have c1 : gsX_X6_labelled_1 NF 109 99 vb F = (x, vc, F) := c1
      simp only [c1, c2, if_pos c4.1]
      have t3 : TP c n (i + 2 + 2) vc F vc1 (upd2 f1 9 (upd (f1 9) a x)) wc := ⟨c3.1, c3.2.1.of rfl rfl, c3.2.2⟩
      rcases labPair (NF := NF) (g := G) hc t3 (k := 110) (by decide) (by decide) (j := 2003395685) (by decide +kernel) 99 with ⟨vd, vd1, wd, y, d1, d2, d3, d4, d5, d6⟩ | ⟨vd, vd1, wd, y, d1, d2, d3⟩
      · have d1 : gsX_X6_labelled_1 NF 110 99 vc F = (y, vd, F) := d1
        simp only [d1, d2, if_pos d4.1]
        have t4 : TP c n (i + 2 + 2 + 2) vd F vd1 (upd2 (upd2 f1 9 (upd (f1 9) a x)) 10 (upd (f1 10) a y)) wd := ⟨d3.1, d3.2.1.of rfl rfl, d3.2.2⟩
        have e10 : upd2 f1 9 (upd (f1 9) a x) 10 = f1 10 := rfl
        rw [e10]
        have hX : (if vd 2 = 111 then (match gsX_X6_labelled_1 NF 111 9 vd F with | (r24, v26, f27) => if 0 ≤ r24 then (match gsX_X7_addMan_1 NF x y r24 v26 f27 with | (v30, f31) => ((1 : Int32), v30, f31)) else (0, v26, f27)) else (match gsX_X7_addMan_1 NF x y 0 vd F with | (v22, f23) => (1, v22, f23))) = (match (if vd 2 = nI 111 then gsX_X6_labelled_1 NF (nI 111) 9 vd F else ((0 : Int32), vd, F)) with | (r24, v26, f27) => if 0 ≤ r24 then (match gsX_X7_addMan_1 NF x y r24 v26 f27 with | (v30, f31) => ((1 : Int32), v30, f31)) else (0, v26, f27)) := by
          rw [show (111 : Int32) = nI 111 from rfl]
          by_cases e : vd 2 = nI 111
          · rw [if_pos e, if_pos e]
          · rw [if_neg e, if_neg e]
            show _ = (if (0 : Int32) ≤ 0 then _ else _)
            rw [if_pos (by decide)]
        rw [hX]
        rcases optPair (NF := NF) (g := G) hc t4 (k := 111) (by decide) (by decide) (j := 444301539187) (by decide +kernel) 9 (by decide) with ⟨ve, ve1, we, z, i', e1, e2, e3, e4, e5, e6⟩ | ⟨ve, ve1, we, z, e1, e2, e3⟩
        · simp only [e1, e2, if_pos e4.1]
          have h9e : ve 9 = nI a := (e5 9 (by decide) (by decide) (by decide) (by decide)).trans ((d5 9 (by decide) (by decide) (by decide) (by decide)).trans ((c5 9 (by decide) (by decide) (by decide) (by decide)).trans ((b5 9 (by decide) (by decide) (by decide) (by decide)).trans h9)))
          rw [addManX h9e ha, if_pos e3.2.2.2.2, hF1]
          refine Or.inl ⟨ve, ve1, we, i', p, x, y, z, ?_, ?_, ⟨e3.1.of rfl (by rw [hFq 0 (by decide)]), e3.2.1.of rfl rfl, e3.2.2⟩, b4, ((b5.tr c5).tr d5).tr e5, ((b6.tr c6).tr d6).tr e6, c4, d4, e4⟩
          · rw [if_pos trivial, hF]
          · rfl
        · obtain ⟨s, s0, s1, s2⟩ := e3.s
          simp only [e1, e2]
          rw [if_neg (show ¬ (0 : Int32) ≤ -1 by decide), s2, if_neg (nI_ne0 s0 (by omega))]
          exact Or.inr ⟨ve, ve1, F, _, we, G, rfl, rfl, FP.tr ((b5.tr c5).tr d5) ((b6.tr c6).tr d6) e3, hFq, fun q q9 q10 q11 => fq _ _ _ _ q q9 q10 q11⟩
      · obtain ⟨s, s0, s1, s2⟩ := d3.s
        simp only [d1, d2, show gsX_X6_labelled_1 NF 110 99 vc F = (-1, vd, F) from d1, opt_f (NF := NF) s2 s0 s1]
        rw [if_neg (show ¬ (0 : Int32) ≤ -1 by decide), s2, if_neg (nI_ne0 s0 (by omega))]
        exact Or.inr ⟨vd, vd1, F, _, wd, G, rfl, rfl, FP.tr (b5.tr c5) (b6.tr c6) d3, hFq, fun q q9 q10 q11 => fq _ _ _ _ q q9 q10 q11⟩
    · obtain ⟨s, s0, s1, s2⟩ := c3.s
      simp only [show gsX_X6_labelled_1 NF 109 99 vb F = (-1, vc, F) from c1, c2, told_f (NF := NF) s2 s0 s1, opt_f (NF := NF) s2 s0 s1]
      rw [if_neg (show ¬ (0 : Int32) ≤ -1 by decide), s2, if_neg (nI_ne0 s0 (by omega))]
      exact Or.inr ⟨vc, vc1, F, _, wc, G, rfl, rfl, FP.tr b5 b6 c3, hFq, fun q q9 q10 q11 => fq _ _ _ _ q q9 q10 q11⟩
  · have b1 : gsX_X6_name_1 NF (nI a) va f = (0, vb, f) := b1
    have b2 : gsY_X11_newName_1 NF 0 (nI a) v1 f1 w1 g = (vb1, f1, wb, gb) := b2
    obtain ⟨s, s0, s1, s2⟩ := b3.s
    simp only [b1, b2, ite01, told_f (NF := NF) s2 s0 s1, opt_f (NF := NF) s2 s0 s1]
    rw [s2, if_neg (nI_ne0 s0 (by omega))]
    exact Or.inr ⟨vb, vb1, f, _, wb, gb, rfl, rfl, b3, fun _ _ => rfl, fun q q9 q10 q11 => fq _ _ _ _ q q9 q10 q11⟩
theorem coatPair {c : Nat → Nat} {n i : Nat} {v : Nat → Int32} {f : Nat → Nat → Int32} {v1 : Nat → Int32} {f1 : Nat → Nat → Int32} {w1 : Int64} {g : Nat → Int64} (hc : ∀ k, k < n → c k < 256) (h : TP c n i v f v1 f1 w1) (hk1 : tk_k c n i ≠ 1) {a : Nat} (ha : a < 6) (h9 : v 10 = nI a) (h17 : v1 18 = nI a) (hn : ∀ j, j < a → NMx c n (f 8 j) (g (6 + j))) :
    (∃ (v' v1' : Nat → Int32) (w1' : Int64) (i' p : Nat) (x y z u : Int32), gsX_X6_coatLine_1 NF v f = (1, upd v' 10 (nI (a + 1)), upd2 (upd2 f 8 (upd (f 8) a (nI p))) 2 (upd (upd (upd (upd (f 2) a x) (6 + a) y) (12 + a) z) (18 + a) u)) ∧ gsY_X11_readCoat_1 NF v1 f1 w1 g = (upd v1' 18 (nI (a + 1)), upd2 (upd2 (upd2 (upd2 f1 12 (upd (f1 12) a x)) 13 (upd (f1 13) a y)) 14 (upd (f1 14) a z)) 15 (upd (f1 15) a u), w1', vp_updL g (6 + a) (tk_w c n (i + 1))) ∧ TP c n i' v' f v1' f1 w1' ∧ NMx c n (nI p) (tk_w c n (i + 1)) ∧ X4 v v' ∧ Y4 v1 v1' ∧ CB x y z u) ∨
    (∃ (v' v1' : Nat → Int32) (f' f1' : Nat → Nat → Int32) (w1' : Int64) (g' : Nat → Int64), gsX_X6_coatLine_1 NF v f = (0, v', f') ∧ gsY_X11_readCoat_1 NF v1 f1 w1 g = (v1', f1', w1', g') ∧ FP c n v v' v1 v1' ∧ (∀ q, q ≠ 8 → f' q = f q) ∧ (∀ q, q ≠ 12 → q ≠ 13 → q ≠ 14 → q ≠ 15 → f1' q = f1 q)) := by
  obtain ⟨va, va1, wa, a1, a2, a3, a4, a5⟩ := TP.adv (NF := NF) (g := g) h hk1
  have hN := namePair2 (NF := NF) (g := g) hc h hk1 ha hn
  rw [a1] at hN
  simp only [gsX_X6_coatLine_1, gsY_X11_readCoat_1, h9, h17, a1, nI_1, nI_clamp (show a < 2 ^ 31 by omega)]
  rw [if_pos (show nI a < (6 : Int32) from nI_lt (b := 6) ha (by omega))]
  have fq : ∀ (A B D E : Nat → Int32) (F : Nat → Nat → Int32) q, q ≠ 12 → q ≠ 13 → q ≠ 14 → q ≠ 15 → upd2 (upd2 (upd2 (upd2 F 12 A) 13 B) 14 D) 15 E q = F q := fun A B D E F q q9 q10 q11 q12 => (u2n q12).trans ((u2n q11).trans ((u2n q10).trans (u2n q9)))
  rcases hN with ⟨vb, vb1, wb, p, b1, b2, b3, b4, b5, b6⟩ | ⟨vb, vb1, wb, gb, b1, b2, b3⟩
  · have b1 : gsX_X6_name_2 NF (nI a) va f = (1, vb, upd2 f 8 (upd (f 8) a (nI p))) := b1
    have b2 : gsY_X11_newName_1 NF 6 (nI a) v1 f1 w1 g = (vb1, f1, wb, vp_updL g (6 + a) (tk_w c n (i + 1))) := b2
    simp only [b1, b2, ite11]
    generalize hF : upd2 f 8 (upd (f 8) a (nI p)) = F at b3
    generalize hG : vp_updL g (6 + a) (tk_w c n (i + 1)) = G
    have hF1 : F 2 = f 2 := by rw [← hF]; rfl
    have hFq : ∀ q, q ≠ 8 → F q = f q := fun q hq => by rw [← hF]; exact u2n hq
    rcases labPair (NF := NF) (g := G) hc b3 (k := 109) (by decide) (by decide) (j := 1952541804) (by decide +kernel) 99 with ⟨vc, vc1, wc, x, c1, c2, c3, c4, c5, c6⟩ | ⟨vc, vc1, wc, y, c1, c2, c3⟩
    · have c1 : gsX_X6_labelled_1 NF 109 99 vb F = (x, vc, F) := c1
      simp only [c1, c2, if_pos c4.1]
      have t3 : TP c n (i + 2 + 2) vc F vc1 (upd2 f1 12 (upd (f1 12) a x)) wc := ⟨c3.1, c3.2.1.of rfl rfl, c3.2.2⟩
      rcases labPair (NF := NF) (g := G) hc t3 (k := 110) (by decide) (by decide) (j := 2003395685) (by decide +kernel) 99 with ⟨vd, vd1, wd, y, d1, d2, d3, d4, d5, d6⟩ | ⟨vd, vd1, wd, y, d1, d2, d3⟩
      · have d1 : gsX_X6_labelled_1 NF 110 99 vc F = (y, vd, F) := d1
        simp only [d1, d2, if_pos d4.1]
        have t4 : TP c n (i + 2 + 2 + 2) vd F vd1 (upd2 (upd2 f1 12 (upd (f1 12) a x)) 13 (upd (f1 13) a y)) wd := ⟨d3.1, d3.2.1.of rfl rfl, d3.2.2⟩
        have e10 : upd2 f1 12 (upd (f1 12) a x) 13 = f1 13 := rfl
        rw [e10]
        have hX : ∀ (v17 : Nat → Int32), (if v17 2 = 112 then (match gsX_X6_labelled_1 NF 112 20 v17 F with | (r33, v35, f36) => if 0 ≤ r33 then (if v35 2 = 120 then (match gsX_X6_labelled_1 NF 120 99 v35 f36 with | (r42, v44, f45) => if 0 ≤ r42 then (match gsX_X7_addCoat_1 NF x y r33 r42 v44 f45 with | (v48, f49) => ((1 : Int32), v48, f49)) else (0, v44, f45)) else (match gsX_X7_addCoat_1 NF x y r33 0 v35 f36 with | (v40, f41) => (1, v40, f41))) else (0, v35, f36)) else (if v17 2 = 120 then (match gsX_X6_labelled_1 NF 120 99 v17 F with | (r25, v27, f28) => if 0 ≤ r25 then (match gsX_X7_addCoat_1 NF x y 0 r25 v27 f28 with | (v31, f32) => (1, v31, f32)) else (0, v27, f28)) else (match gsX_X7_addCoat_1 NF x y 0 0 v17 F with | (v23, f24) => (1, v23, f24)))) = (match (if v17 2 = nI 112 then gsX_X6_labelled_1 NF (nI 112) 20 v17 F else ((0 : Int32), v17, F)) with | (r33, v35, f36) => if 0 ≤ r33 then (match (if v35 2 = nI 120 then gsX_X6_labelled_1 NF (nI 120) 99 v35 f36 else ((0 : Int32), v35, f36)) with | (r42, v44, f45) => if 0 ≤ r42 then (match gsX_X7_addCoat_1 NF x y r33 r42 v44 f45 with | (v48, f49) => ((1 : Int32), v48, f49)) else (0, v44, f45)) else (0, v35, f36)) := fun v17 => by
          rw [show (112 : Int32) = nI 112 from rfl, show (120 : Int32) = nI 120 from rfl]
          have in2 : ∀ (r33 : Int32) (v35 : Nat → Int32) (f36 : Nat → Nat → Int32), (if v35 2 = nI 120 then (match gsX_X6_labelled_1 NF (nI 120) 99 v35 f36 with | (r42, v44, f45) => if 0 ≤ r42 then (match gsX_X7_addCoat_1 NF x y r33 r42 v44 f45 with | (v48, f49) => ((1 : Int32), v48, f49)) else (0, v44, f45)) else (match gsX_X7_addCoat_1 NF x y r33 0 v35 f36 with | (v40, f41) => (1, v40, f41))) = (match (if v35 2 = nI 120 then gsX_X6_labelled_1 NF (nI 120) 99 v35 f36 else ((0 : Int32), v35, f36)) with | (r42, v44, f45) => if 0 ≤ r42 then (match gsX_X7_addCoat_1 NF x y r33 r42 v44 f45 with | (v48, f49) => ((1 : Int32), v48, f49)) else (0, v44, f45)) := fun r33 v35 f36 => by
            by_cases e : v35 2 = nI 120
            · rw [if_pos e, if_pos e]
            · rw [if_neg e, if_neg e]
              show _ = (if (0 : Int32) ≤ 0 then _ else _)
              rw [if_pos (by decide)]
          simp only [in2]
          by_cases e : v17 2 = nI 112
          · rw [if_pos e, if_pos e]
          · rw [if_neg e, if_neg e]
            show _ = (if (0 : Int32) ≤ 0 then _ else _)
            rw [if_pos (show (0 : Int32) ≤ 0 by decide)]
        rw [hX]
        rcases optPair (NF := NF) (g := G) hc t4 (k := 112) (by decide) (by decide) (j := 1936023917) (by decide +kernel) 20 (by decide) with ⟨ve, ve1, we, z, i5, e1, e2, e3, e4, e5, e6⟩ | ⟨ve, ve1, we, z, e1, e2, e3⟩
        · simp only [e1, e2, if_pos e4.1]
          have t5 : TP c n i5 ve F ve1 (upd2 (upd2 (upd2 f1 12 (upd (f1 12) a x)) 13 (upd (f1 13) a y)) 14 (upd (f1 14) a z)) we := ⟨e3.1, e3.2.1.of rfl rfl, e3.2.2⟩
          have e11 : upd2 (upd2 f1 12 (upd (f1 12) a x)) 13 (upd (f1 13) a y) 14 = f1 14 := rfl
          rw [e11]
          rcases optPair (NF := NF) (g := G) hc t5 (k := 120) (by decide) (by decide) (j := 2003792494) (by decide +kernel) 99 (by decide) with ⟨vh, vh1, wh, u, i6, k1, k2, k3, k4, k5, k6⟩ | ⟨vh, vh1, wh, u, k1, k2, k3⟩
          · simp only [k1, k2, if_pos k4.1]
            have h9e : vh 10 = nI a := (k5 10 (by decide) (by decide) (by decide) (by decide)).trans ((e5 10 (by decide) (by decide) (by decide) (by decide)).trans ((d5 10 (by decide) (by decide) (by decide) (by decide)).trans ((c5 10 (by decide) (by decide) (by decide) (by decide)).trans ((b5 10 (by decide) (by decide) (by decide) (by decide)).trans h9))))
            rw [addCoatX h9e ha, if_pos k3.2.2.2.2, hF1]
            refine Or.inl ⟨vh, vh1, wh, i6, p, x, y, z, u, ?_, ?_, ⟨k3.1.of rfl (by rw [hFq 0 (by decide)]), k3.2.1.of rfl rfl, k3.2.2⟩, b4, (((b5.tr c5).tr d5).tr e5).tr k5, (((b6.tr c6).tr d6).tr e6).tr k6, c4, d4, e4, k4⟩
            · rw [if_pos trivial, hF]
            · rfl
          · obtain ⟨s, s0, s1, s2⟩ := k3.s
            simp only [k1, k2]
            rw [if_neg (show ¬ (0 : Int32) ≤ -1 by decide), s2, if_neg (nI_ne0 s0 (by omega))]
            exact Or.inr ⟨vh, vh1, F, _, wh, G, rfl, rfl, FP.tr (((b5.tr c5).tr d5).tr e5) (((b6.tr c6).tr d6).tr e6) k3, hFq, fun q q9 q10 q11 q12 => fq _ _ _ _ _ q q9 q10 q11 q12⟩
        · obtain ⟨s, s0, s1, s2⟩ := e3.s
          simp only [e1, e2, opt_f (NF := NF) s2 s0 s1]
          rw [if_neg (show ¬ (0 : Int32) ≤ -1 by decide), s2, if_neg (nI_ne0 s0 (by omega))]
          exact Or.inr ⟨ve, ve1, F, _, we, G, rfl, rfl, FP.tr ((b5.tr c5).tr d5) ((b6.tr c6).tr d6) e3, hFq, fun q q9 q10 q11 q12 => fq _ _ _ _ _ q q9 q10 q11 q12⟩
      · obtain ⟨s, s0, s1, s2⟩ := d3.s
        simp only [d1, d2, show gsX_X6_labelled_1 NF 110 99 vc F = (-1, vd, F) from d1, opt_f (NF := NF) s2 s0 s1]
        rw [if_neg (show ¬ (0 : Int32) ≤ -1 by decide), s2, if_neg (nI_ne0 s0 (by omega))]
        exact Or.inr ⟨vd, vd1, F, _, wd, G, rfl, rfl, FP.tr (b5.tr c5) (b6.tr c6) d3, hFq, fun q q9 q10 q11 q12 => fq _ _ _ _ _ q q9 q10 q11 q12⟩
    · obtain ⟨s, s0, s1, s2⟩ := c3.s
      simp only [show gsX_X6_labelled_1 NF 109 99 vb F = (-1, vc, F) from c1, c2, told_f (NF := NF) s2 s0 s1, opt_f (NF := NF) s2 s0 s1]
      rw [if_neg (show ¬ (0 : Int32) ≤ -1 by decide), s2, if_neg (nI_ne0 s0 (by omega))]
      exact Or.inr ⟨vc, vc1, F, _, wc, G, rfl, rfl, FP.tr b5 b6 c3, hFq, fun q q9 q10 q11 q12 => fq _ _ _ _ _ q q9 q10 q11 q12⟩
  · have b1 : gsX_X6_name_2 NF (nI a) va f = (0, vb, f) := b1
    have b2 : gsY_X11_newName_1 NF 6 (nI a) v1 f1 w1 g = (vb1, f1, wb, gb) := b2
    obtain ⟨s, s0, s1, s2⟩ := b3.s
    simp only [b1, b2, ite01, told_f (NF := NF) s2 s0 s1, opt_f (NF := NF) s2 s0 s1]
    rw [s2, if_neg (nI_ne0 s0 (by omega))]
    exact Or.inr ⟨vb, vb1, f, _, wb, gb, rfl, rfl, b3, fun _ _ => rfl, fun q q9 q10 q11 q12 => fq _ _ _ _ _ q q9 q10 q11 q12⟩
end
end
section
section
variable {NF : Nat}
def LRm (f f1 : Nat → Nat → Int32) (a : Nat) : Prop := ∀ j, j < a → f 1 j = f1 9 j ∧ f 1 (6 + j) = f1 10 j ∧ f 1 (12 + j) = f1 11 j ∧ MB (f 1 j) (f 1 (6 + j)) (f 1 (12 + j))
def LRc (f f1 : Nat → Nat → Int32) (b : Nat) : Prop := ∀ j, j < b → f 2 j = f1 12 j ∧ f 2 (6 + j) = f1 13 j ∧ f 2 (12 + j) = f1 14 j ∧ f 2 (18 + j) = f1 15 j ∧ CB (f 2 j) (f 2 (6 + j)) (f 2 (12 + j)) (f 2 (18 + j))
def LRo (t : Nat) (v : Nat → Int32) (f : Nat → Nat → Int32) (v1 : Nat → Int32) (f1 : Nat → Nat → Int32) : Prop := (t % 2 = 0 → v 16 = 0 ∧ v 17 = 0 ∧ v1 11 = 0) ∧ (t % 2 = 1 → ∃ (out : List (Nat × Int32)) (own : Nat), v 16 = nI out.length ∧ v1 8 = nI out.length ∧ out.length ≤ 270 ∧ OUTX out f ∧ OUTY out f1 ∧ v 17 = nI own ∧ v1 11 = nI own ∧ own ≤ 30 ∧ WFo out own)
def LRt (t : Nat) (v v1 : Nat → Int32) : Prop := t < 64 ∧ v 6 = nI t ∧ v1 15 = nI (t % 2) ∧ v1 30 = nI (t / 2 % 2) ∧ v1 31 = nI (t / 4 % 2) ∧ v1 32 = nI (t / 8 % 2) ∧ v1 33 = nI (t / 16 % 2) ∧ v1 34 = nI (t / 32 % 2)
def SB (a b c d e : Int32) : Prop := (0 ≤ a ∧ a ≤ 999) ∧ (0 ≤ b ∧ b ≤ 999) ∧ (0 ≤ c ∧ c ≤ 99) ∧ (0 ≤ d ∧ d ≤ 100) ∧ (0 ≤ e ∧ e ≤ 999)
def LRs (v v1 : Nat → Int32) : Prop := v 11 = v1 19 ∧ v 12 = v1 20 ∧ v 13 = v1 21 ∧ v 14 = v1 22 ∧ v 15 = v1 23 ∧ SB (v 11) (v 12) (v 13) (v 14) (v 15)
def LR (c : Nat → Nat) (n : Nat) (v : Nat → Int32) (f : Nat → Nat → Int32) (v1 : Nat → Int32) (f1 : Nat → Nat → Int32) (w1 : Int64) (g : Nat → Int64) (i a b t : Nat) : Prop := TP c n i v f v1 f1 w1 ∧ (v 7 = 0 ∧ v 8 = -1 ∧ v1 2 = -1) ∧ (v 9 = nI a ∧ v1 17 = nI a ∧ a ≤ 6) ∧ (v 10 = nI b ∧ v1 18 = nI b ∧ b ≤ 6) ∧ LRm f f1 a ∧ LRc f f1 b ∧ (∀ j, j < a → NMx c n (f 7 j) (g (0 + j))) ∧ (∀ j, j < b → NMx c n (f 8 j) (g (6 + j))) ∧ LRt t v v1 ∧ LRs v v1 ∧ LRo t v f v1 f1
def tBits (t : Nat) : Nat := t % 2 + t / 2 % 2 + t / 4 % 2 + t / 8 % 2 + t / 16 % 2 + t / 32 % 2
theorem LR.go {c : Nat → Nat} {n : Nat} {v v' : Nat → Int32} {f : Nat → Nat → Int32} {v1 v1' : Nat → Int32} {f1 : Nat → Nat → Int32} {w1 w1' : Int64} {g : Nat → Int64} {i i' a b t : Nat} (h : LR c n v f v1 f1 w1 g i a b t) (x : X4 v v') (y : Y4 v1 v1') (h' : TP c n i' v' f v1' f1 w1') : LR c n v' f v1' f1 w1' g i' a b t := by
  obtain ⟨_, ⟨p7, p8, p2⟩, ⟨a1, a2, a3⟩, ⟨b1, b2, b3⟩, m, d, n1, n2, ⟨t0, t6, t15, t30, t31, t32, t33, t34⟩, ⟨s1, s2, s3, s4, s5, s6⟩, o1, o2⟩ := h
  have X : ∀ k, 6 ≤ k → v' k = v k := fun k hk => x k (by omega) (by omega) (by omega) (by omega)
  have Y : ∀ k, 8 ≤ k → v1' k = v1 k := fun k hk => y k (by omega) (by omega) (by omega) (by omega)
  refine ⟨h', ⟨(X 7 (by decide)).trans p7, (X 8 (by decide)).trans p8, (y 2 (by decide) (by decide) (by decide) (by decide)).trans p2⟩, ⟨(X 9 (by decide)).trans a1, (Y 17 (by decide)).trans a2, a3⟩, ⟨(X 10 (by decide)).trans b1, (Y 18 (by decide)).trans b2, b3⟩, m, d, n1, n2, ⟨t0, (X 6 (by decide)).trans t6, (Y 15 (by decide)).trans t15, (Y 30 (by decide)).trans t30, (Y 31 (by decide)).trans t31, (Y 32 (by decide)).trans t32, (Y 33 (by decide)).trans t33, (Y 34 (by decide)).trans t34⟩, ⟨by rw [X 11 (by decide), Y 19 (by decide)]; exact s1, by rw [X 12 (by decide), Y 20 (by decide)]; exact s2, by rw [X 13 (by decide), Y 21 (by decide)]; exact s3, by rw [X 14 (by decide), Y 22 (by decide)]; exact s4, by rw [X 15 (by decide), Y 23 (by decide)]; exact s5, by rw [X 11 (by decide), X 12 (by decide), X 13 (by decide), X 14 (by decide), X 15 (by decide)]; exact s6⟩, fun z => ?_, fun z => ?_⟩
  · rw [X 16 (by decide), X 17 (by decide), Y 11 (by decide)]; exact o1 z
  · rw [X 16 (by decide), X 17 (by decide), Y 11 (by decide), Y 8 (by decide)]; exact o2 z
def yTail (NF : Nat) (v : Nat → Int32) (f : Nat → Nat → Int32) (w : Int64) (g : Nat → Int64) : (Nat → Int32) × (Nat → Nat → Int32) × Int64 × (Nat → Int64) :=
  if (v 1) = 0 then
    if (v 5) = 59 then
      if (v 1) = 0 then
        match gsY_X11_token_1 NF v f w g with
        | (v517, f518, w519, g520) => (v517, f518, w519, g520)
      else (v, f, w, g)
    else
      match gsY_X11_wrong_1 NF 2 v f w g with
      | (v527, f528, w529, g530) =>
        if (v527 1) = 0 then
          match gsY_X11_token_1 NF v527 f528 w529 g530 with
          | (v539, f540, w541, g542) => (v539, f540, w541, g542)
        else (v527, f528, w529, g530)
  else
    if (v 1) = 0 then
      match gsY_X11_token_1 NF v f w g with
      | (v505, f506, w507, g508) => (v505, f506, w507, g508)
    else (v, f, w, g)
theorem yTail_f {v1 : Nat → Int32} {f1 : Nat → Nat → Int32} {w1 : Int64} {g : Nat → Int64} {s : Nat} (h1 : v1 1 = nI s) (h0 : 0 < s) (hs : s < 100) : yTail NF v1 f1 w1 g = (v1, f1, w1, g) := by
  have e2 : ¬ nI s = 0 := nI_ne0 h0 (by omega)
  simp only [yTail, h1, if_neg e2]
theorem closePair {c : Nat → Nat} {n i : Nat} {v : Nat → Int32} {f : Nat → Nat → Int32} {v1 : Nat → Int32} {f1 : Nat → Nat → Int32} {w1 : Int64} {g : Nat → Int64} (hc : ∀ k, k < n → c k < 256) (h : TP c n i v f v1 f1 w1) :
    (∃ (v' v1' : Nat → Int32) (w1' : Int64), gsX_X6_closing_1 NF v f = (1, v', f) ∧ yTail NF v1 f1 w1 g = (v1', f1, w1', g) ∧ TP c n (i + 1) v' f v1' f1 w1' ∧ X4 v v' ∧ Y4 v1 v1') ∨
    (∃ (v' v1' : Nat → Int32), gsX_X6_closing_1 NF v f = (0, v', f) ∧ yTail NF v1 f1 w1 g = (v1', f1, w1, g) ∧ FP c n v v' v1 v1') := by
  have hk := tk_lt hc i
  have h' := h
  obtain ⟨T, T1, C, C1, hf⟩ := h
  obtain ⟨_, _, _, t59, _⟩ := tS40 _ hk
  simp only [gsX_X6_closing_1, gsX_X6_taken_1, yTail, C.1, C1.2.1, hf]
  by_cases e : tk_k c n i = 59
  · obtain ⟨v', v1', w1', a1, a2, a3, a4, a5⟩ := TP.adv (NF := NF) (g := g) h' (by omega)
    rw [if_pos (show nI (tk_k c n i) = (59 : Int32) by rw [e]; rfl), if_pos trivial, if_pos (t59.mpr e), if_pos trivial]
    simp only [a1, a2]
    exact Or.inl ⟨v', v1', w1', by first | rfl | exact if_pos trivial | exact if_pos rfl, rfl, a3, a4, a5⟩
  · obtain ⟨v', v1', a, b, d, s, s0, s1, s2⟩ := TP.ref (NF := NF) (g := g) hc h'
    rw [if_neg (nlit 59 59 rfl (by omega) (by decide) e), if_pos trivial, if_neg (fun z => e (t59.mp z))]
    simp only [a, b, ite01, s2]
    rw [if_neg (nI_ne0 s0 (by omega))]
    exact Or.inr ⟨v', v1', by first | rfl | exact if_neg (by decide), rfl, d⟩
theorem opn : ∀ t, t < 64 → ∀ d, d < 6 → ((nI t &&& ((1 : Int32) <<< ((nI (103 + d) - 103) &&& 31))) = 0 ↔ t / 2 ^ d % 2 = 0) ∧ (t / 2 ^ d % 2 = 0 → nI t ||| ((1 : Int32) <<< ((nI (103 + d) - 103) &&& 31)) = nI (t + 2 ^ d) ∧ t + 2 ^ d < 64 ∧ tBits (t + 2 ^ d) = tBits t + 1 ∧ (∀ e, e < 6 → (t + 2 ^ d) / 2 ^ e % 2 = if e = d then 1 else t / 2 ^ e % 2)) := by decide +kernel
end
end
section
section
variable {NF : Nat}
theorem setX {d : Nat} (h1 : 1 ≤ d) (h2 : d ≤ 5) {x : Int32} {v : Nat → Int32} {f : Nat → Nat → Int32} : gsX_X7_set_1 NF (nI (103 + d)) x v f = (upd v (10 + d) x, f) := by
  rcases (show d = 1 ∨ d = 2 ∨ d = 3 ∨ d = 4 ∨ d = 5 by omega) with e | e | e | e | e <;> (subst e; rfl)
theorem upS {v : Nat → Int32} {k : Nat} {x : Int32} (k2 : k ≠ 2) (k3 : k ≠ 3) (k4 : k ≠ 4) (k5 : k ≠ 5) {c : Nat → Nat} {n i : Nat} (h : CX c n i v) : CX c n i (upd v k x) := ⟨(pk_un k2.symm).trans h.1, (pk_un k3.symm).trans h.2.1, (pk_un k4.symm).trans h.2.2.1, fun z => (pk_un k5.symm).trans (h.2.2.2 z)⟩
theorem upT {v : Nat → Int32} {w : Int64} {k : Nat} {x : Int32} (k3 : k ≠ 3) (k5 : k ≠ 5) (k6 : k ≠ 6) (k7 : k ≠ 7) {c : Nat → Nat} {n i : Nat} (h : CY c n i v w) : CY c n i (upd v k x) w := ⟨(pk_un k6.symm).trans h.1, (pk_un k5.symm).trans h.2.1, fun z => (pk_un k3.symm).trans (h.2.2.1 z), fun z => (pk_un k7.symm).trans (h.2.2.2.1 z), h.2.2.2.2⟩
theorem TP.upX {c : Nat → Nat} {n i k : Nat} {x : Int32} {v : Nat → Int32} {f : Nat → Nat → Int32} {v1 : Nat → Int32} {f1 : Nat → Nat → Int32} {w1 : Int64} (h : TP c n i v f v1 f1 w1) (hk : 6 ≤ k) : TP c n i (upd v k x) f v1 f1 w1 := ⟨h.1.upd (by omega), h.2.1, upS (by omega) (by omega) (by omega) (by omega) h.2.2.1, h.2.2.2⟩
theorem TP.upY {c : Nat → Nat} {n i k : Nat} {x : Int32} {v : Nat → Int32} {f : Nat → Nat → Int32} {v1 : Nat → Int32} {f1 : Nat → Nat → Int32} {w1 : Int64} (h : TP c n i v f v1 f1 w1) (hk : 8 ≤ k) : TP c n i v f (upd v1 k x) f1 w1 := ⟨h.1, h.2.1.upd (by omega), h.2.2.1, upT (by omega) (by omega) (by omega) (by omega) h.2.2.2.1, (pk_un (by omega)).trans h.2.2.2.2⟩
theorem TP.f {c : Nat → Nat} {n i : Nat} {v : Nat → Int32} {f f' : Nat → Nat → Int32} {v1 : Nat → Int32} {f1 f1' : Nat → Nat → Int32} {w1 : Int64} (h : TP c n i v f v1 f1 w1) (e : f' 0 = f 0) (e1 : f1' 0 = f1 0) : TP c n i v f' v1 f1' w1 := ⟨h.1.of rfl e, h.2.1.of rfl e1, h.2.2⟩
theorem settPair {c : Nat → Nat} {n i : Nat} {v : Nat → Int32} {f : Nat → Nat → Int32} {v1 : Nat → Int32} {f1 : Nat → Nat → Int32} {w1 : Int64} {g : Nat → Int64} (hc : ∀ k, k < n → c k < 256) (h : TP c n i v f v1 f1 w1) {t d : Nat} (h1 : 1 ≤ d) (h2 : d ≤ 5) (hk : tk_k c n i = 103 + d) (ht : t < 64) (h6 : v 6 = nI t) (hb : t / 2 ^ d % 2 = 0) (mo : Int32) {j : Int64} (hj : j = wC (103 + d)) :
    (∃ (v' v1' : Nat → Int32) (w1' : Int64) (x : Int32) (i' : Nat), gsX_X6_settingLine_1 NF mo v f = (1, upd v' (10 + d) x, f) ∧ gsY_X11_told_1 NF j mo (upd v1 (29 + d) 1) f1 w1 g = (x, v1', f1, w1', g) ∧ TP c n i' v' f v1' f1 w1' ∧ X4 (upd v 6 (nI (t + 2 ^ d))) v' ∧ Y4 (upd v1 (29 + d) 1) v1' ∧ (0 ≤ x ∧ x ≤ mo)) ∨
    (∃ (v' v1' : Nat → Int32) (w1' : Int64) (y : Int32), gsX_X6_settingLine_1 NF mo v f = (0, v', f) ∧ gsY_X11_told_1 NF j mo (upd v1 (29 + d) 1) f1 w1 g = (y, v1', f1, w1', g) ∧ FP c n (upd v 6 (nI (t + 2 ^ d))) v' (upd v1 (29 + d) 1) v1') := by
  have hkl := tk_lt hc i
  obtain ⟨o1, o2⟩ := opn t ht d (by omega)
  obtain ⟨o2, _⟩ := o2 hb
  have h' : TP c n i (upd v 6 (nI (t + 2 ^ d))) f (upd v1 (29 + d) 1) f1 w1 := (h.upX (by decide)).upY (by omega)
  obtain ⟨va, ea, _, _⟩ := advX (NF := NF) (i := i) h'.1 h'.2.2.1.2.2.1
  have eL : gsX_X6_labelled_1 NF (nI (103 + d)) mo (upd v 6 (nI (t + 2 ^ d))) f = gsX_X6_numbered_1 NF mo va f := by
    simp only [gsX_X6_labelled_1, h'.2.2.1.1]
    rw [if_pos (by rw [hk]), ea]
  have eS : gsX_X6_settingLine_1 NF mo v f = (match gsX_X6_labelled_1 NF (nI (103 + d)) mo (upd v 6 (nI (t + 2 ^ d))) f with | (r6, v8, f9) => if 0 ≤ r6 then ((1 : Int32), upd v8 (10 + d) r6, f9) else (0, v8, f9)) := by
    rw [eL]
    simp only [gsX_X6_settingLine_1, gsX_X6_opened_1, h.2.2.1.1, h6, hk]
    rw [if_pos (o1.mpr hb), o2, ea]
    simp only [ite11, setX h1 h2]
    all_goals rfl
  rw [eS]
  rcases labPair (NF := NF) (g := g) hc h' (k := 103 + d) (by omega) (by omega) hj mo with ⟨v2, v3, w3, x, b1, b2, b3, b4, b5, b6⟩ | ⟨v2, v3, w3, y, b1, b2, b3⟩
  · rw [b1]
    exact Or.inl ⟨v2, v3, w3, x, i + 2, if_pos b4.1, b2, b3, b5, b6, b4⟩
  · rw [b1]
    exact Or.inr ⟨v2, v3, w3, y, if_neg (by decide), b2, b3⟩
theorem settF {c : Nat → Nat} {n i : Nat} {v : Nat → Int32} {f : Nat → Nat → Int32} (C : CX c n i v) {t d : Nat} (h2 : d ≤ 5) (hk : tk_k c n i = 103 + d) (ht : t < 64) (h6 : v 6 = nI t) (hb : ¬ t / 2 ^ d % 2 = 0) : gsX_X6_opened_1 NF (nI (103 + d)) v f = xmB (gsX_X6_refuse_1 NF v f) := by
  obtain ⟨o1, o2⟩ := opn t ht d (by omega)
  simp only [gsX_X6_opened_1, h6]
  rw [if_neg (fun z => hb (o1.mp z))]
  rfl
def xTail (NF : Nat) (q : Int32 × (Nat → Int32) × (Nat → Nat → Int32)) : Int32 × (Nat → Int32) × (Nat → Nat → Int32) :=
  match q with
  | (r, v, f) => if r = 1 then (match gsX_X6_closing_1 NF v f with | (r7, v9, f10) => if r7 = 1 then (1, v9, f10) else (0, v9, f10)) else (0, v, f)
theorem tailLR {c : Nat → Nat} {n i a b t : Nat} {v : Nat → Int32} {f : Nat → Nat → Int32} {v1 : Nat → Int32} {f1 : Nat → Nat → Int32} {w1 : Int64} {g : Nat → Int64} (hc : ∀ k, k < n → c k < 256) (h : LR c n v f v1 f1 w1 g i a b t) :
    (∃ (v' v1' : Nat → Int32) (w1' : Int64), xTail NF (1, v, f) = (1, v', f) ∧ yTail NF v1 f1 w1 g = (v1', f1, w1', g) ∧ LR c n v' f v1' f1 w1' g (i + 1) a b t) ∨
    (∃ (v' v1' : Nat → Int32), xTail NF (1, v, f) = (0, v', f) ∧ yTail NF v1 f1 w1 g = (v1', f1, w1, g) ∧ LF c n v' v1') := by
  rcases closePair (NF := NF) (g := g) hc h.1 with ⟨v', v1', w1', e1, e2, e3, e4, e5⟩ | ⟨v', v1', e1, e2, e3⟩
  · refine Or.inl ⟨v', v1', w1', ?_, e2, h.go e4 e5 e3⟩
    simp only [xTail, e1, ite11, if_true]
  · refine Or.inr ⟨v', v1', ?_, e2, e3.lf⟩
    simp only [xTail, e1, ite01, if_true]
theorem LR.man {c : Nat → Nat} {n i a b t p : Nat} {v : Nat → Int32} {f : Nat → Nat → Int32} {v1 : Nat → Int32} {f1 : Nat → Nat → Int32} {w1 : Int64} {g : Nat → Int64} {x y z : Int32} {wn : Int64} (h : LR c n v f v1 f1 w1 g i a b t) (ha : a < 6) (hn : NMx c n (nI p) wn) (hB : MB x y z) : LR c n (upd v 9 (nI (a + 1))) (upd2 (upd2 f 7 (upd (f 7) a (nI p))) 1 (upd (upd (upd (f 1) a x) (6 + a) y) (12 + a) z)) (upd v1 17 (nI (a + 1))) (upd2 (upd2 (upd2 f1 9 (upd (f1 9) a x)) 10 (upd (f1 10) a y)) 11 (upd (f1 11) a z)) w1 (vp_updL g (0 + a) wn) i (a + 1) b t := by
  obtain ⟨h0, ⟨p7, p8, p2⟩, ⟨a1, a2, a3⟩, ⟨b1, b2, b3⟩, m, d, n1, n2, ⟨t0, t6, t15, t30, t31, t32, t33, t34⟩, ⟨s1, s2, s3, s4, s5, s6⟩, o1, o2⟩ := h
  refine ⟨((h0.upX (by decide)).upY (by decide)).f rfl rfl, ⟨(pk_un (by decide)).trans p7, (pk_un (by decide)).trans p8, (pk_un (by decide)).trans p2⟩, ⟨pk_us, pk_us, by omega⟩, ⟨(pk_un (by decide)).trans b1, (pk_un (by decide)).trans b2, b3⟩, fun j hj => ?_, fun j hj => d j hj, fun j hj => ?_, fun j hj => ?_, ⟨t0, (pk_un (by decide)).trans t6, (pk_un (by decide)).trans t15, (pk_un (by decide)).trans t30, (pk_un (by decide)).trans t31, (pk_un (by decide)).trans t32, (pk_un (by decide)).trans t33, (pk_un (by decide)).trans t34⟩, ⟨s1, s2, s3, s4, s5, s6⟩, o1, o2⟩
  · generalize hU : upd (upd (upd (f 1) a x) (6 + a) y) (12 + a) z = U
    show U j = upd (f1 9) a x j ∧ U (6 + j) = upd (f1 10) a y j ∧ U (12 + j) = upd (f1 11) a z j ∧ MB (U j) (U (6 + j)) (U (12 + j))
    by_cases e : j = a
    · subst e
      have u1 : U j = x := by rw [← hU, pk_un (by omega), pk_un (by omega), pk_us]
      have u2 : U (6 + j) = y := by rw [← hU, pk_un (by omega), pk_us]
      have u3 : U (12 + j) = z := by rw [← hU, pk_us]
      exact ⟨by rw [u1, pk_us], by rw [u2, pk_us], by rw [u3, pk_us], by rw [u1, u2, u3]; exact hB⟩
    · obtain ⟨q1, q2, q3, q4⟩ := m j (by omega)
      have u1 : U j = f 1 j := by rw [← hU, pk_un (by omega), pk_un (by omega), pk_un e]
      have u2 : U (6 + j) = f 1 (6 + j) := by rw [← hU, pk_un (by omega), pk_un (by omega), pk_un (by omega)]
      have u3 : U (12 + j) = f 1 (12 + j) := by rw [← hU, pk_un (by omega), pk_un (by omega), pk_un (by omega)]
      exact ⟨by rw [u1, pk_un e]; exact q1, by rw [u2, pk_un e]; exact q2, by rw [u3, pk_un e]; exact q3, by rw [u1, u2, u3]; exact q4⟩
  · show NMx c n (upd (f 7) a (nI p) j) (vp_updL g (0 + a) wn (0 + j))
    by_cases e : j = a
    · rw [e, pk_us, pk_uLs]; exact hn
    · rw [pk_un e, pk_uLn (by omega)]; exact n1 j (by omega)
  · show NMx c n (f 8 j) (vp_updL g (0 + a) wn (6 + j))
    rw [pk_uLn (by omega)]; exact n2 j hj
theorem LR.coat {c : Nat → Nat} {n i a b t p : Nat} {v : Nat → Int32} {f : Nat → Nat → Int32} {v1 : Nat → Int32} {f1 : Nat → Nat → Int32} {w1 : Int64} {g : Nat → Int64} {x y z u : Int32} {wn : Int64} (h : LR c n v f v1 f1 w1 g i a b t) (ha : b < 6) (hn : NMx c n (nI p) wn) (hB : CB x y z u) : LR c n (upd v 10 (nI (b + 1))) (upd2 (upd2 f 8 (upd (f 8) b (nI p))) 2 (upd (upd (upd (upd (f 2) b x) (6 + b) y) (12 + b) z) (18 + b) u)) (upd v1 18 (nI (b + 1))) (upd2 (upd2 (upd2 (upd2 f1 12 (upd (f1 12) b x)) 13 (upd (f1 13) b y)) 14 (upd (f1 14) b z)) 15 (upd (f1 15) b u)) w1 (vp_updL g (6 + b) wn) i a (b + 1) t := by
  obtain ⟨h0, ⟨p7, p8, p2⟩, ⟨a1, a2, a3⟩, ⟨b1, b2, b3⟩, m, d, n1, n2, ⟨t0, t6, t15, t30, t31, t32, t33, t34⟩, ⟨s1, s2, s3, s4, s5, s6⟩, o1, o2⟩ := h
  refine ⟨((h0.upX (by decide)).upY (by decide)).f rfl rfl, ⟨(pk_un (by decide)).trans p7, (pk_un (by decide)).trans p8, (pk_un (by decide)).trans p2⟩, ⟨(pk_un (by decide)).trans a1, (pk_un (by decide)).trans a2, a3⟩, ⟨pk_us, pk_us, by omega⟩, fun j hj => m j hj, fun j hj => ?_, fun j hj => ?_, fun j hj => ?_, ⟨t0, (pk_un (by decide)).trans t6, (pk_un (by decide)).trans t15, (pk_un (by decide)).trans t30, (pk_un (by decide)).trans t31, (pk_un (by decide)).trans t32, (pk_un (by decide)).trans t33, (pk_un (by decide)).trans t34⟩, ⟨s1, s2, s3, s4, s5, s6⟩, o1, o2⟩
  · generalize hU : upd (upd (upd (upd (f 2) b x) (6 + b) y) (12 + b) z) (18 + b) u = U
    show U j = upd (f1 12) b x j ∧ U (6 + j) = upd (f1 13) b y j ∧ U (12 + j) = upd (f1 14) b z j ∧ U (18 + j) = upd (f1 15) b u j ∧ CB (U j) (U (6 + j)) (U (12 + j)) (U (18 + j))
    by_cases e : j = b
    · subst e
      have u1 : U j = x := by rw [← hU, pk_un (by omega), pk_un (by omega), pk_un (by omega), pk_us]
      have u2 : U (6 + j) = y := by rw [← hU, pk_un (by omega), pk_un (by omega), pk_us]
      have u3 : U (12 + j) = z := by rw [← hU, pk_un (by omega), pk_us]
      have u4 : U (18 + j) = u := by rw [← hU, pk_us]
      exact ⟨by rw [u1, pk_us], by rw [u2, pk_us], by rw [u3, pk_us], by rw [u4, pk_us], by rw [u1, u2, u3, u4]; exact hB⟩
    · obtain ⟨q1, q2, q3, q4, q5⟩ := d j (by omega)
      have u1 : U j = f 2 j := by rw [← hU, pk_un (by omega), pk_un (by omega), pk_un (by omega), pk_un e]
      have u2 : U (6 + j) = f 2 (6 + j) := by rw [← hU, pk_un (by omega), pk_un (by omega), pk_un (by omega), pk_un (by omega)]
      have u3 : U (12 + j) = f 2 (12 + j) := by rw [← hU, pk_un (by omega), pk_un (by omega), pk_un (by omega), pk_un (by omega)]
      have u4 : U (18 + j) = f 2 (18 + j) := by rw [← hU, pk_un (by omega), pk_un (by omega), pk_un (by omega), pk_un (by omega)]
      exact ⟨by rw [u1, pk_un e]; exact q1, by rw [u2, pk_un e]; exact q2, by rw [u3, pk_un e]; exact q3, by rw [u4, pk_un e]; exact q4, by rw [u1, u2, u3, u4]; exact q5⟩
  · show NMx c n (f 7 j) (vp_updL g (6 + b) wn (0 + j))
    rw [pk_uLn (by omega)]; exact n1 j hj
  · show NMx c n (upd (f 8) b (nI p) j) (vp_updL g (6 + b) wn (6 + j))
    by_cases e : j = b
    · rw [e, pk_us, pk_uLs]; exact hn
    · rw [pk_un e, pk_uLn (by omega)]; exact n2 j (by omega)
end
end
section
section
variable {NF : Nat}
def yT (NF : Nat) (q : (Nat → Int32) × (Nat → Nat → Int32) × Int64 × (Nat → Int64)) : (Nat → Int32) × (Nat → Nat → Int32) × Int64 × (Nat → Int64) :=
  match q with
  | (v, f, w, g) => yTail NF v f w g
def yTs (NF k : Nat) (q : Int32 × (Nat → Int32) × (Nat → Nat → Int32) × Int64 × (Nat → Int64)) : (Nat → Int32) × (Nat → Nat → Int32) × Int64 × (Nat → Int64) :=
  match q with
  | (r, v, f, w, g) => yTail NF (upd v k r) f w g
theorem yl_101 {c : Nat → Nat} {n i : Nat} {v1 : Nat → Int32} {f1 : Nat → Nat → Int32} {w1 : Int64} {g : Nat → Int64} (hc : ∀ k, k < n → c k < 256) (C1 : CY c n i v1 w1) : gsY_X11_readLine_1 NF v1 f1 w1 g = if tk_k c n i = 101 then (if 6 ≤ v1 17 then gsY_X11_readLine_1_J1 NF v1 f1 w1 g else yT NF (gsY_X11_readMan_1 NF v1 f1 w1 g)) else gsY_X11_readLine_1_J1 NF v1 f1 w1 g := by
  unfold gsY_X11_readLine_1
  rw [yIsW hc C1 (k := 101) (by decide) (by decide) (by decide +kernel)]
  by_cases e : tk_k c n i = 101
  · rw [if_pos e, if_pos e, ite11]; rfl
  · rw [if_neg e, if_neg e, ite01]
theorem yl_102 {c : Nat → Nat} {n i : Nat} {v1 : Nat → Int32} {f1 : Nat → Nat → Int32} {w1 : Int64} {g : Nat → Int64} (hc : ∀ k, k < n → c k < 256) (C1 : CY c n i v1 w1) : gsY_X11_readLine_1_J1 NF v1 f1 w1 g = if tk_k c n i = 102 then (if 6 ≤ v1 18 then gsY_X11_readLine_1_J2 NF v1 f1 w1 g else yT NF (gsY_X11_readCoat_1 NF v1 f1 w1 g)) else gsY_X11_readLine_1_J2 NF v1 f1 w1 g := by
  unfold gsY_X11_readLine_1_J1
  rw [yIsW hc C1 (k := 102) (by decide) (by decide) (by decide +kernel)]
  by_cases e : tk_k c n i = 102
  · rw [if_pos e, if_pos e, ite11]; rfl
  · rw [if_neg e, if_neg e, ite01]
theorem yl_103 {c : Nat → Nat} {n i : Nat} {v1 : Nat → Int32} {f1 : Nat → Nat → Int32} {w1 : Int64} {g : Nat → Int64} (hc : ∀ k, k < n → c k < 256) (C1 : CY c n i v1 w1) : gsY_X11_readLine_1_J2 NF v1 f1 w1 g = if tk_k c n i = 103 then (if v1 15 = 0 then yT NF (gsY_X11_formula_1 NF v1 f1 w1 g) else gsY_X11_readLine_1_J3 NF v1 f1 w1 g) else gsY_X11_readLine_1_J3 NF v1 f1 w1 g := by
  unfold gsY_X11_readLine_1_J2
  rw [yIsW hc C1 (k := 103) (by decide) (by decide) (by decide +kernel)]
  by_cases e : tk_k c n i = 103
  · rw [if_pos e, if_pos e, ite11]; rfl
  · rw [if_neg e, if_neg e, ite01]
theorem yl_104 {c : Nat → Nat} {n i : Nat} {v1 : Nat → Int32} {f1 : Nat → Nat → Int32} {w1 : Int64} {g : Nat → Int64} (hc : ∀ k, k < n → c k < 256) (C1 : CY c n i v1 w1) : gsY_X11_readLine_1_J3 NF v1 f1 w1 g = if tk_k c n i = 104 then (if v1 30 = 0 then yTs NF 19 (gsY_X11_told_1 NF 1700885369 999 (upd v1 30 1) f1 w1 g) else gsY_X11_readLine_1_J4 NF v1 f1 w1 g) else gsY_X11_readLine_1_J4 NF v1 f1 w1 g := by
  unfold gsY_X11_readLine_1_J3
  rw [yIsW hc C1 (k := 104) (by decide) (by decide) (by decide +kernel)]
  by_cases e : tk_k c n i = 104
  · rw [if_pos e, if_pos e, ite11]; rfl
  · rw [if_neg e, if_neg e, ite01]
theorem yl_105 {c : Nat → Nat} {n i : Nat} {v1 : Nat → Int32} {f1 : Nat → Nat → Int32} {w1 : Int64} {g : Nat → Int64} (hc : ∀ k, k < n → c k < 256) (C1 : CY c n i v1 w1) : gsY_X11_readLine_1_J4 NF v1 f1 w1 g = if tk_k c n i = 105 then (if v1 31 = 0 then yTs NF 20 (gsY_X11_told_1 NF 1651469428 999 (upd v1 31 1) f1 w1 g) else gsY_X11_readLine_1_J5 NF v1 f1 w1 g) else gsY_X11_readLine_1_J5 NF v1 f1 w1 g := by
  unfold gsY_X11_readLine_1_J4
  rw [yIsW hc C1 (k := 105) (by decide) (by decide) (by decide +kernel)]
  by_cases e : tk_k c n i = 105
  · rw [if_pos e, if_pos e, ite11]; rfl
  · rw [if_neg e, if_neg e, ite01]
theorem yl_106 {c : Nat → Nat} {n i : Nat} {v1 : Nat → Int32} {f1 : Nat → Nat → Int32} {w1 : Int64} {g : Nat → Int64} (hc : ∀ k, k < n → c k < 256) (C1 : CY c n i v1 w1) : gsY_X11_readLine_1_J5 NF v1 f1 w1 g = if tk_k c n i = 106 then (if v1 32 = 0 then yTs NF 21 (gsY_X11_told_1 NF 1818848101 99 (upd v1 32 1) f1 w1 g) else gsY_X11_readLine_1_J6 NF v1 f1 w1 g) else gsY_X11_readLine_1_J6 NF v1 f1 w1 g := by
  unfold gsY_X11_readLine_1_J5
  rw [yIsW hc C1 (k := 106) (by decide) (by decide) (by decide +kernel)]
  by_cases e : tk_k c n i = 106
  · rw [if_pos e, if_pos e, ite11]; rfl
  · rw [if_neg e, if_neg e, ite01]
theorem yl_107 {c : Nat → Nat} {n i : Nat} {v1 : Nat → Int32} {f1 : Nat → Nat → Int32} {w1 : Int64} {g : Nat → Int64} (hc : ∀ k, k < n → c k < 256) (C1 : CY c n i v1 w1) : gsY_X11_readLine_1_J6 NF v1 f1 w1 g = if tk_k c n i = 107 then (if v1 33 = 0 then yTs NF 22 (gsY_X11_told_1 NF 1918986606 100 (upd v1 33 1) f1 w1 g) else gsY_X11_readLine_1_J7 NF v1 f1 w1 g) else gsY_X11_readLine_1_J7 NF v1 f1 w1 g := by
  unfold gsY_X11_readLine_1_J6
  rw [yIsW hc C1 (k := 107) (by decide) (by decide) (by decide +kernel)]
  by_cases e : tk_k c n i = 107
  · rw [if_pos e, if_pos e, ite11]; rfl
  · rw [if_neg e, if_neg e, ite01]
theorem yl_108 {c : Nat → Nat} {n i : Nat} {v1 : Nat → Int32} {f1 : Nat → Nat → Int32} {w1 : Int64} {g : Nat → Int64} (hc : ∀ k, k < n → c k < 256) (C1 : CY c n i v1 w1) : gsY_X11_readLine_1_J7 NF v1 f1 w1 g = if tk_k c n i = 108 then (if v1 34 = 0 then yTs NF 23 (gsY_X11_told_1 NF 1685217655 999 (upd v1 34 1) f1 w1 g) else gsY_X11_readLine_1_J8 NF v1 f1 w1 g) else gsY_X11_readLine_1_J8 NF v1 f1 w1 g := by
  unfold gsY_X11_readLine_1_J7
  rw [yIsW hc C1 (k := 108) (by decide) (by decide) (by decide +kernel)]
  by_cases e : tk_k c n i = 108
  · rw [if_pos e, if_pos e, ite11]; rfl
  · rw [if_neg e, if_neg e, ite01]
theorem yl_end {c : Nat → Nat} {n i : Nat} {v : Nat → Int32} {f : Nat → Nat → Int32} {v1 : Nat → Int32} {f1 : Nat → Nat → Int32} {w1 : Int64} {g : Nat → Int64} (hc : ∀ k, k < n → c k < 256) (h : TP c n i v f v1 f1 w1) : ∃ v' v1', gsX_X6_refuse_1 NF v f = (0, v', f) ∧ gsY_X11_readLine_1_J8 NF v1 f1 w1 g = (v1', f1, w1, g) ∧ LF c n v' v1' := by
  obtain ⟨v', v1', a, b, d, s, s0, s1, s2⟩ := TP.ref (NF := NF) (g := g) hc h
  have e2 : ¬ nI s = 0 := nI_ne0 s0 (by omega)
  exact ⟨v', v1', a, by simp only [gsY_X11_readLine_1_J8, b, s2, if_neg e2], d.lf⟩
theorem LR.sett1 {c : Nat → Nat} {n i i' a b t : Nat} {v v' : Nat → Int32} {f : Nat → Nat → Int32} {v1 v1' : Nat → Int32} {f1 : Nat → Nat → Int32} {w1 w1' : Int64} {g : Nat → Int64} {x : Int32} (hx : 0 ≤ x ∧ x ≤ 999) (h : LR c n v f v1 f1 w1 g i a b t) (hb : t / 2 ^ 1 % 2 = 0) (h' : TP c n i' v' f v1' f1 w1') (X : X4 (upd v 6 (nI (t + 2 ^ 1))) v') (Y : Y4 (upd v1 30 1) v1') : LR c n (upd v' 11 x) f (upd v1' 19 x) f1 w1' g i' a b (t + 2 ^ 1) ∧ tBits (t + 2 ^ 1) = tBits t + 1 := by
  obtain ⟨_, ⟨p7, p8, p2⟩, ⟨a1, a2, a3⟩, ⟨b1, b2, b3⟩, m, d, n1, n2, ⟨t0, t6, t15, t30, t31, t32, t33, t34⟩, ⟨s1, s2, s3, s4, s5, s6⟩, o1, o2⟩ := h
  obtain ⟨_, q⟩ := opn t t0 1 (by decide)
  obtain ⟨_, q2, q3, q4⟩ := q hb
  have XX : ∀ k, 7 ≤ k → k ≠ 11 → upd v' 11 x k = v k := fun k hk hk2 => (pk_un hk2).trans ((X k (by omega) (by omega) (by omega) (by omega)).trans (pk_un (by omega)))
  have YY : ∀ k, k = 2 ∨ 8 ≤ k → k ≠ 19 → k ≠ 30 → upd v1' 19 x k = v1 k := fun k hk hk2 hk3 => (pk_un hk2).trans ((Y k (by omega) (by omega) (by omega) (by omega)).trans (pk_un hk3))
  have yfl : upd v1' 19 x 30 = 1 := (pk_un (by decide)).trans ((Y 30 (by decide) (by decide) (by decide) (by decide)).trans pk_us)
  have e0 := q4 0 (by decide)
  have e1 := q4 1 (by decide)
  have e2 := q4 2 (by decide)
  have e3 := q4 3 (by decide)
  have e4 := q4 4 (by decide)
  have e5 := q4 5 (by decide)
  have par : (t + 2 ^ 1) % 2 = t % 2 := by simpa using e0
  refine ⟨⟨(h'.upX (by decide)).upY (by decide), ⟨(XX 7 (by decide) (by decide)).trans p7, (XX 8 (by decide) (by decide)).trans p8, (YY 2 (by decide) (by decide) (by decide)).trans p2⟩, ⟨(XX 9 (by decide) (by decide)).trans a1, (YY 17 (by decide) (by decide) (by decide)).trans a2, a3⟩, ⟨(XX 10 (by decide) (by decide)).trans b1, (YY 18 (by decide) (by decide) (by decide)).trans b2, b3⟩, m, d, n1, n2, ⟨q2, (pk_un (by decide)).trans ((X 6 (by decide) (by decide) (by decide) (by decide)).trans pk_us), ?_, ?_, ?_, ?_, ?_, ?_⟩, ?_, fun z => ?_, fun z => ?_⟩, q3⟩
  · rw [YY 15 (by decide) (by decide) (by decide), par]; exact t15
  · rw [yfl, show (t + 2 ^ 1) / 2 % 2 = 1 from e1]; rfl
  · rw [YY 31 (by decide) (by decide) (by decide), show (t + 2 ^ 1) / 4 % 2 = t / 4 % 2 from e2]; exact t31
  · rw [YY 32 (by decide) (by decide) (by decide), show (t + 2 ^ 1) / 8 % 2 = t / 8 % 2 from e3]; exact t32
  · rw [YY 33 (by decide) (by decide) (by decide), show (t + 2 ^ 1) / 16 % 2 = t / 16 % 2 from e4]; exact t33
  · rw [YY 34 (by decide) (by decide) (by decide), show (t + 2 ^ 1) / 32 % 2 = t / 32 % 2 from e5]; exact t34
  · exact ⟨by rw [pk_us, pk_us], by rw [XX 12 (by decide) (by decide), YY 20 (by decide) (by decide) (by decide)]; exact s2, by rw [XX 13 (by decide) (by decide), YY 21 (by decide) (by decide) (by decide)]; exact s3, by rw [XX 14 (by decide) (by decide), YY 22 (by decide) (by decide) (by decide)]; exact s4, by rw [XX 15 (by decide) (by decide), YY 23 (by decide) (by decide) (by decide)]; exact s5, by rw [pk_us, XX 12 (by decide) (by decide), XX 13 (by decide) (by decide), XX 14 (by decide) (by decide), XX 15 (by decide) (by decide)]; exact ⟨hx, s6.2.1, s6.2.2.1, s6.2.2.2.1, s6.2.2.2.2⟩⟩
  · rw [XX 16 (by decide) (by decide), XX 17 (by decide) (by decide), YY 11 (by decide) (by decide) (by decide)]; exact o1 (by rw [← par]; exact z)
  · rw [XX 16 (by decide) (by decide), XX 17 (by decide) (by decide), YY 11 (by decide) (by decide) (by decide), YY 8 (by decide) (by decide) (by decide)]; exact o2 (by rw [← par]; exact z)
theorem LR.sett2 {c : Nat → Nat} {n i i' a b t : Nat} {v v' : Nat → Int32} {f : Nat → Nat → Int32} {v1 v1' : Nat → Int32} {f1 : Nat → Nat → Int32} {w1 w1' : Int64} {g : Nat → Int64} {x : Int32} (hx : 0 ≤ x ∧ x ≤ 999) (h : LR c n v f v1 f1 w1 g i a b t) (hb : t / 2 ^ 2 % 2 = 0) (h' : TP c n i' v' f v1' f1 w1') (X : X4 (upd v 6 (nI (t + 2 ^ 2))) v') (Y : Y4 (upd v1 31 1) v1') : LR c n (upd v' 12 x) f (upd v1' 20 x) f1 w1' g i' a b (t + 2 ^ 2) ∧ tBits (t + 2 ^ 2) = tBits t + 1 := by
  obtain ⟨_, ⟨p7, p8, p2⟩, ⟨a1, a2, a3⟩, ⟨b1, b2, b3⟩, m, d, n1, n2, ⟨t0, t6, t15, t30, t31, t32, t33, t34⟩, ⟨s1, s2, s3, s4, s5, s6⟩, o1, o2⟩ := h
  obtain ⟨_, q⟩ := opn t t0 2 (by decide)
  obtain ⟨_, q2, q3, q4⟩ := q hb
  have XX : ∀ k, 7 ≤ k → k ≠ 12 → upd v' 12 x k = v k := fun k hk hk2 => (pk_un hk2).trans ((X k (by omega) (by omega) (by omega) (by omega)).trans (pk_un (by omega)))
  have YY : ∀ k, k = 2 ∨ 8 ≤ k → k ≠ 20 → k ≠ 31 → upd v1' 20 x k = v1 k := fun k hk hk2 hk3 => (pk_un hk2).trans ((Y k (by omega) (by omega) (by omega) (by omega)).trans (pk_un hk3))
  have yfl : upd v1' 20 x 31 = 1 := (pk_un (by decide)).trans ((Y 31 (by decide) (by decide) (by decide) (by decide)).trans pk_us)
  have e0 := q4 0 (by decide)
  have e1 := q4 1 (by decide)
  have e2 := q4 2 (by decide)
  have e3 := q4 3 (by decide)
  have e4 := q4 4 (by decide)
  have e5 := q4 5 (by decide)
  have par : (t + 2 ^ 2) % 2 = t % 2 := by simpa using e0
  refine ⟨⟨(h'.upX (by decide)).upY (by decide), ⟨(XX 7 (by decide) (by decide)).trans p7, (XX 8 (by decide) (by decide)).trans p8, (YY 2 (by decide) (by decide) (by decide)).trans p2⟩, ⟨(XX 9 (by decide) (by decide)).trans a1, (YY 17 (by decide) (by decide) (by decide)).trans a2, a3⟩, ⟨(XX 10 (by decide) (by decide)).trans b1, (YY 18 (by decide) (by decide) (by decide)).trans b2, b3⟩, m, d, n1, n2, ⟨q2, (pk_un (by decide)).trans ((X 6 (by decide) (by decide) (by decide) (by decide)).trans pk_us), ?_, ?_, ?_, ?_, ?_, ?_⟩, ?_, fun z => ?_, fun z => ?_⟩, q3⟩
  · rw [YY 15 (by decide) (by decide) (by decide), par]; exact t15
  · rw [YY 30 (by decide) (by decide) (by decide), show (t + 2 ^ 2) / 2 % 2 = t / 2 % 2 from e1]; exact t30
  · rw [yfl, show (t + 2 ^ 2) / 4 % 2 = 1 from e2]; rfl
  · rw [YY 32 (by decide) (by decide) (by decide), show (t + 2 ^ 2) / 8 % 2 = t / 8 % 2 from e3]; exact t32
  · rw [YY 33 (by decide) (by decide) (by decide), show (t + 2 ^ 2) / 16 % 2 = t / 16 % 2 from e4]; exact t33
  · rw [YY 34 (by decide) (by decide) (by decide), show (t + 2 ^ 2) / 32 % 2 = t / 32 % 2 from e5]; exact t34
  · exact ⟨by rw [XX 11 (by decide) (by decide), YY 19 (by decide) (by decide) (by decide)]; exact s1, by rw [pk_us, pk_us], by rw [XX 13 (by decide) (by decide), YY 21 (by decide) (by decide) (by decide)]; exact s3, by rw [XX 14 (by decide) (by decide), YY 22 (by decide) (by decide) (by decide)]; exact s4, by rw [XX 15 (by decide) (by decide), YY 23 (by decide) (by decide) (by decide)]; exact s5, by rw [XX 11 (by decide) (by decide), pk_us, XX 13 (by decide) (by decide), XX 14 (by decide) (by decide), XX 15 (by decide) (by decide)]; exact ⟨s6.1, hx, s6.2.2.1, s6.2.2.2.1, s6.2.2.2.2⟩⟩
  · rw [XX 16 (by decide) (by decide), XX 17 (by decide) (by decide), YY 11 (by decide) (by decide) (by decide)]; exact o1 (by rw [← par]; exact z)
  · rw [XX 16 (by decide) (by decide), XX 17 (by decide) (by decide), YY 11 (by decide) (by decide) (by decide), YY 8 (by decide) (by decide) (by decide)]; exact o2 (by rw [← par]; exact z)
theorem LR.sett3 {c : Nat → Nat} {n i i' a b t : Nat} {v v' : Nat → Int32} {f : Nat → Nat → Int32} {v1 v1' : Nat → Int32} {f1 : Nat → Nat → Int32} {w1 w1' : Int64} {g : Nat → Int64} {x : Int32} (hx : 0 ≤ x ∧ x ≤ 99) (h : LR c n v f v1 f1 w1 g i a b t) (hb : t / 2 ^ 3 % 2 = 0) (h' : TP c n i' v' f v1' f1 w1') (X : X4 (upd v 6 (nI (t + 2 ^ 3))) v') (Y : Y4 (upd v1 32 1) v1') : LR c n (upd v' 13 x) f (upd v1' 21 x) f1 w1' g i' a b (t + 2 ^ 3) ∧ tBits (t + 2 ^ 3) = tBits t + 1 := by
  obtain ⟨_, ⟨p7, p8, p2⟩, ⟨a1, a2, a3⟩, ⟨b1, b2, b3⟩, m, d, n1, n2, ⟨t0, t6, t15, t30, t31, t32, t33, t34⟩, ⟨s1, s2, s3, s4, s5, s6⟩, o1, o2⟩ := h
  obtain ⟨_, q⟩ := opn t t0 3 (by decide)
  obtain ⟨_, q2, q3, q4⟩ := q hb
  have XX : ∀ k, 7 ≤ k → k ≠ 13 → upd v' 13 x k = v k := fun k hk hk2 => (pk_un hk2).trans ((X k (by omega) (by omega) (by omega) (by omega)).trans (pk_un (by omega)))
  have YY : ∀ k, k = 2 ∨ 8 ≤ k → k ≠ 21 → k ≠ 32 → upd v1' 21 x k = v1 k := fun k hk hk2 hk3 => (pk_un hk2).trans ((Y k (by omega) (by omega) (by omega) (by omega)).trans (pk_un hk3))
  have yfl : upd v1' 21 x 32 = 1 := (pk_un (by decide)).trans ((Y 32 (by decide) (by decide) (by decide) (by decide)).trans pk_us)
  have e0 := q4 0 (by decide)
  have e1 := q4 1 (by decide)
  have e2 := q4 2 (by decide)
  have e3 := q4 3 (by decide)
  have e4 := q4 4 (by decide)
  have e5 := q4 5 (by decide)
  have par : (t + 2 ^ 3) % 2 = t % 2 := by simpa using e0
  refine ⟨⟨(h'.upX (by decide)).upY (by decide), ⟨(XX 7 (by decide) (by decide)).trans p7, (XX 8 (by decide) (by decide)).trans p8, (YY 2 (by decide) (by decide) (by decide)).trans p2⟩, ⟨(XX 9 (by decide) (by decide)).trans a1, (YY 17 (by decide) (by decide) (by decide)).trans a2, a3⟩, ⟨(XX 10 (by decide) (by decide)).trans b1, (YY 18 (by decide) (by decide) (by decide)).trans b2, b3⟩, m, d, n1, n2, ⟨q2, (pk_un (by decide)).trans ((X 6 (by decide) (by decide) (by decide) (by decide)).trans pk_us), ?_, ?_, ?_, ?_, ?_, ?_⟩, ?_, fun z => ?_, fun z => ?_⟩, q3⟩
  · rw [YY 15 (by decide) (by decide) (by decide), par]; exact t15
  · rw [YY 30 (by decide) (by decide) (by decide), show (t + 2 ^ 3) / 2 % 2 = t / 2 % 2 from e1]; exact t30
  · rw [YY 31 (by decide) (by decide) (by decide), show (t + 2 ^ 3) / 4 % 2 = t / 4 % 2 from e2]; exact t31
  · rw [yfl, show (t + 2 ^ 3) / 8 % 2 = 1 from e3]; rfl
  · rw [YY 33 (by decide) (by decide) (by decide), show (t + 2 ^ 3) / 16 % 2 = t / 16 % 2 from e4]; exact t33
  · rw [YY 34 (by decide) (by decide) (by decide), show (t + 2 ^ 3) / 32 % 2 = t / 32 % 2 from e5]; exact t34
  · exact ⟨by rw [XX 11 (by decide) (by decide), YY 19 (by decide) (by decide) (by decide)]; exact s1, by rw [XX 12 (by decide) (by decide), YY 20 (by decide) (by decide) (by decide)]; exact s2, by rw [pk_us, pk_us], by rw [XX 14 (by decide) (by decide), YY 22 (by decide) (by decide) (by decide)]; exact s4, by rw [XX 15 (by decide) (by decide), YY 23 (by decide) (by decide) (by decide)]; exact s5, by rw [XX 11 (by decide) (by decide), XX 12 (by decide) (by decide), pk_us, XX 14 (by decide) (by decide), XX 15 (by decide) (by decide)]; exact ⟨s6.1, s6.2.1, hx, s6.2.2.2.1, s6.2.2.2.2⟩⟩
  · rw [XX 16 (by decide) (by decide), XX 17 (by decide) (by decide), YY 11 (by decide) (by decide) (by decide)]; exact o1 (by rw [← par]; exact z)
  · rw [XX 16 (by decide) (by decide), XX 17 (by decide) (by decide), YY 11 (by decide) (by decide) (by decide), YY 8 (by decide) (by decide) (by decide)]; exact o2 (by rw [← par]; exact z)
theorem LR.sett4 {c : Nat → Nat} {n i i' a b t : Nat} {v v' : Nat → Int32} {f : Nat → Nat → Int32} {v1 v1' : Nat → Int32} {f1 : Nat → Nat → Int32} {w1 w1' : Int64} {g : Nat → Int64} {x : Int32} (hx : 0 ≤ x ∧ x ≤ 100) (h : LR c n v f v1 f1 w1 g i a b t) (hb : t / 2 ^ 4 % 2 = 0) (h' : TP c n i' v' f v1' f1 w1') (X : X4 (upd v 6 (nI (t + 2 ^ 4))) v') (Y : Y4 (upd v1 33 1) v1') : LR c n (upd v' 14 x) f (upd v1' 22 x) f1 w1' g i' a b (t + 2 ^ 4) ∧ tBits (t + 2 ^ 4) = tBits t + 1 := by
  obtain ⟨_, ⟨p7, p8, p2⟩, ⟨a1, a2, a3⟩, ⟨b1, b2, b3⟩, m, d, n1, n2, ⟨t0, t6, t15, t30, t31, t32, t33, t34⟩, ⟨s1, s2, s3, s4, s5, s6⟩, o1, o2⟩ := h
  obtain ⟨_, q⟩ := opn t t0 4 (by decide)
  obtain ⟨_, q2, q3, q4⟩ := q hb
  have XX : ∀ k, 7 ≤ k → k ≠ 14 → upd v' 14 x k = v k := fun k hk hk2 => (pk_un hk2).trans ((X k (by omega) (by omega) (by omega) (by omega)).trans (pk_un (by omega)))
  have YY : ∀ k, k = 2 ∨ 8 ≤ k → k ≠ 22 → k ≠ 33 → upd v1' 22 x k = v1 k := fun k hk hk2 hk3 => (pk_un hk2).trans ((Y k (by omega) (by omega) (by omega) (by omega)).trans (pk_un hk3))
  have yfl : upd v1' 22 x 33 = 1 := (pk_un (by decide)).trans ((Y 33 (by decide) (by decide) (by decide) (by decide)).trans pk_us)
  have e0 := q4 0 (by decide)
  have e1 := q4 1 (by decide)
  have e2 := q4 2 (by decide)
  have e3 := q4 3 (by decide)
  have e4 := q4 4 (by decide)
  have e5 := q4 5 (by decide)
  have par : (t + 2 ^ 4) % 2 = t % 2 := by simpa using e0
  refine ⟨⟨(h'.upX (by decide)).upY (by decide), ⟨(XX 7 (by decide) (by decide)).trans p7, (XX 8 (by decide) (by decide)).trans p8, (YY 2 (by decide) (by decide) (by decide)).trans p2⟩, ⟨(XX 9 (by decide) (by decide)).trans a1, (YY 17 (by decide) (by decide) (by decide)).trans a2, a3⟩, ⟨(XX 10 (by decide) (by decide)).trans b1, (YY 18 (by decide) (by decide) (by decide)).trans b2, b3⟩, m, d, n1, n2, ⟨q2, (pk_un (by decide)).trans ((X 6 (by decide) (by decide) (by decide) (by decide)).trans pk_us), ?_, ?_, ?_, ?_, ?_, ?_⟩, ?_, fun z => ?_, fun z => ?_⟩, q3⟩
  · rw [YY 15 (by decide) (by decide) (by decide), par]; exact t15
  · rw [YY 30 (by decide) (by decide) (by decide), show (t + 2 ^ 4) / 2 % 2 = t / 2 % 2 from e1]; exact t30
  · rw [YY 31 (by decide) (by decide) (by decide), show (t + 2 ^ 4) / 4 % 2 = t / 4 % 2 from e2]; exact t31
  · rw [YY 32 (by decide) (by decide) (by decide), show (t + 2 ^ 4) / 8 % 2 = t / 8 % 2 from e3]; exact t32
  · rw [yfl, show (t + 2 ^ 4) / 16 % 2 = 1 from e4]; rfl
  · rw [YY 34 (by decide) (by decide) (by decide), show (t + 2 ^ 4) / 32 % 2 = t / 32 % 2 from e5]; exact t34
  · exact ⟨by rw [XX 11 (by decide) (by decide), YY 19 (by decide) (by decide) (by decide)]; exact s1, by rw [XX 12 (by decide) (by decide), YY 20 (by decide) (by decide) (by decide)]; exact s2, by rw [XX 13 (by decide) (by decide), YY 21 (by decide) (by decide) (by decide)]; exact s3, by rw [pk_us, pk_us], by rw [XX 15 (by decide) (by decide), YY 23 (by decide) (by decide) (by decide)]; exact s5, by rw [XX 11 (by decide) (by decide), XX 12 (by decide) (by decide), XX 13 (by decide) (by decide), pk_us, XX 15 (by decide) (by decide)]; exact ⟨s6.1, s6.2.1, s6.2.2.1, hx, s6.2.2.2.2⟩⟩
  · rw [XX 16 (by decide) (by decide), XX 17 (by decide) (by decide), YY 11 (by decide) (by decide) (by decide)]; exact o1 (by rw [← par]; exact z)
  · rw [XX 16 (by decide) (by decide), XX 17 (by decide) (by decide), YY 11 (by decide) (by decide) (by decide), YY 8 (by decide) (by decide) (by decide)]; exact o2 (by rw [← par]; exact z)
theorem LR.sett5 {c : Nat → Nat} {n i i' a b t : Nat} {v v' : Nat → Int32} {f : Nat → Nat → Int32} {v1 v1' : Nat → Int32} {f1 : Nat → Nat → Int32} {w1 w1' : Int64} {g : Nat → Int64} {x : Int32} (hx : 0 ≤ x ∧ x ≤ 999) (h : LR c n v f v1 f1 w1 g i a b t) (hb : t / 2 ^ 5 % 2 = 0) (h' : TP c n i' v' f v1' f1 w1') (X : X4 (upd v 6 (nI (t + 2 ^ 5))) v') (Y : Y4 (upd v1 34 1) v1') : LR c n (upd v' 15 x) f (upd v1' 23 x) f1 w1' g i' a b (t + 2 ^ 5) ∧ tBits (t + 2 ^ 5) = tBits t + 1 := by
  obtain ⟨_, ⟨p7, p8, p2⟩, ⟨a1, a2, a3⟩, ⟨b1, b2, b3⟩, m, d, n1, n2, ⟨t0, t6, t15, t30, t31, t32, t33, t34⟩, ⟨s1, s2, s3, s4, s5, s6⟩, o1, o2⟩ := h
  obtain ⟨_, q⟩ := opn t t0 5 (by decide)
  obtain ⟨_, q2, q3, q4⟩ := q hb
  have XX : ∀ k, 7 ≤ k → k ≠ 15 → upd v' 15 x k = v k := fun k hk hk2 => (pk_un hk2).trans ((X k (by omega) (by omega) (by omega) (by omega)).trans (pk_un (by omega)))
  have YY : ∀ k, k = 2 ∨ 8 ≤ k → k ≠ 23 → k ≠ 34 → upd v1' 23 x k = v1 k := fun k hk hk2 hk3 => (pk_un hk2).trans ((Y k (by omega) (by omega) (by omega) (by omega)).trans (pk_un hk3))
  have yfl : upd v1' 23 x 34 = 1 := (pk_un (by decide)).trans ((Y 34 (by decide) (by decide) (by decide) (by decide)).trans pk_us)
  have e0 := q4 0 (by decide)
  have e1 := q4 1 (by decide)
  have e2 := q4 2 (by decide)
  have e3 := q4 3 (by decide)
  have e4 := q4 4 (by decide)
  have e5 := q4 5 (by decide)
  have par : (t + 2 ^ 5) % 2 = t % 2 := by simpa using e0
  refine ⟨⟨(h'.upX (by decide)).upY (by decide), ⟨(XX 7 (by decide) (by decide)).trans p7, (XX 8 (by decide) (by decide)).trans p8, (YY 2 (by decide) (by decide) (by decide)).trans p2⟩, ⟨(XX 9 (by decide) (by decide)).trans a1, (YY 17 (by decide) (by decide) (by decide)).trans a2, a3⟩, ⟨(XX 10 (by decide) (by decide)).trans b1, (YY 18 (by decide) (by decide) (by decide)).trans b2, b3⟩, m, d, n1, n2, ⟨q2, (pk_un (by decide)).trans ((X 6 (by decide) (by decide) (by decide) (by decide)).trans pk_us), ?_, ?_, ?_, ?_, ?_, ?_⟩, ?_, fun z => ?_, fun z => ?_⟩, q3⟩
  · rw [YY 15 (by decide) (by decide) (by decide), par]; exact t15
  · rw [YY 30 (by decide) (by decide) (by decide), show (t + 2 ^ 5) / 2 % 2 = t / 2 % 2 from e1]; exact t30
  · rw [YY 31 (by decide) (by decide) (by decide), show (t + 2 ^ 5) / 4 % 2 = t / 4 % 2 from e2]; exact t31
  · rw [YY 32 (by decide) (by decide) (by decide), show (t + 2 ^ 5) / 8 % 2 = t / 8 % 2 from e3]; exact t32
  · rw [YY 33 (by decide) (by decide) (by decide), show (t + 2 ^ 5) / 16 % 2 = t / 16 % 2 from e4]; exact t33
  · rw [yfl, show (t + 2 ^ 5) / 32 % 2 = 1 from e5]; rfl
  · exact ⟨by rw [XX 11 (by decide) (by decide), YY 19 (by decide) (by decide) (by decide)]; exact s1, by rw [XX 12 (by decide) (by decide), YY 20 (by decide) (by decide) (by decide)]; exact s2, by rw [XX 13 (by decide) (by decide), YY 21 (by decide) (by decide) (by decide)]; exact s3, by rw [XX 14 (by decide) (by decide), YY 22 (by decide) (by decide) (by decide)]; exact s4, by rw [pk_us, pk_us], by rw [XX 11 (by decide) (by decide), XX 12 (by decide) (by decide), XX 13 (by decide) (by decide), XX 14 (by decide) (by decide), pk_us]; exact ⟨s6.1, s6.2.1, s6.2.2.1, s6.2.2.2.1, hx⟩⟩
  · rw [XX 16 (by decide) (by decide), XX 17 (by decide) (by decide), YY 11 (by decide) (by decide) (by decide)]; exact o1 (by rw [← par]; exact z)
  · rw [XX 16 (by decide) (by decide), XX 17 (by decide) (by decide), YY 11 (by decide) (by decide) (by decide), YY 8 (by decide) (by decide) (by decide)]; exact o2 (by rw [← par]; exact z)
end
end
section
section
variable {NF : Nat}
def LOK (NF : Nat) (c : Nat → Nat) (n : Nat) (x : Int32 × (Nat → Int32) × (Nat → Nat → Int32)) (y : (Nat → Int32) × (Nat → Nat → Int32) × Int64 × (Nat → Int64)) (mu : Nat) : Prop := ∃ (v' : Nat → Int32) (f' : Nat → Nat → Int32) (v1' : Nat → Int32) (f1' : Nat → Nat → Int32) (w1' : Int64) (g' : Nat → Int64) (i' a' b' t' : Nat), x = (1, v', f') ∧ y = (v1', f1', w1', g') ∧ LR c n v' f' v1' f1' w1' g' i' a' b' t' ∧ a' + b' + tBits t' = mu + 1
def LNO (c : Nat → Nat) (n : Nat) (x : Int32 × (Nat → Int32) × (Nat → Nat → Int32)) (y : (Nat → Int32) × (Nat → Nat → Int32) × Int64 × (Nat → Int64)) : Prop := ∃ (v' : Nat → Int32) (f' : Nat → Nat → Int32) (v1' : Nat → Int32) (f1' : Nat → Nat → Int32) (w1' : Int64) (g' : Nat → Int64), x = (0, v', f') ∧ y = (v1', f1', w1', g') ∧ LF c n v' v1'
theorem xTail0 (v : Nat → Int32) (f : Nat → Nat → Int32) : xTail NF (0, v, f) = (0, v, f) := by
  simp only [xTail, ite01]
theorem LF.s {c : Nat → Nat} {n : Nat} {v v1 : Nat → Int32} (h : LF c n v v1) : ∃ s, 0 < s ∧ s < 100 ∧ v1 1 = nI s := by
  obtain ⟨s, j, a, b, d, e, _⟩ := h
  exact ⟨s, a, b, e⟩
theorem tailOK {c : Nat → Nat} {n i a b t : Nat} {v : Nat → Int32} {f : Nat → Nat → Int32} {v1 : Nat → Int32} {f1 : Nat → Nat → Int32} {w1 : Int64} {g : Nat → Int64} (hc : ∀ k, k < n → c k < 256) (h : LR c n v f v1 f1 w1 g i a b t) {mu : Nat} (hm : a + b + tBits t = mu + 1) : LOK NF c n (xTail NF (1, v, f)) (yTail NF v1 f1 w1 g) mu ∨ LNO c n (xTail NF (1, v, f)) (yTail NF v1 f1 w1 g) := by
  rcases tailLR (NF := NF) hc h with ⟨v', v1', w1', e1, e2, e3⟩ | ⟨v', v1', e1, e2, e3⟩
  · exact Or.inl ⟨v', f, v1', f1, w1', g, i + 1, a, b, t, e1, e2, e3, hm⟩
  · exact Or.inr ⟨v', f, v1', f1, w1, g, e1, e2, e3⟩
theorem tailNO {c : Nat → Nat} {n : Nat} {v v1 : Nat → Int32} {f f1 : Nat → Nat → Int32} {w1 : Int64} {g : Nat → Int64} (h : LF c n v v1) : LNO c n (xTail NF (0, v, f)) (yTail NF v1 f1 w1 g) := by
  obtain ⟨s, s0, s1, s2⟩ := h.s
  exact ⟨v, f, v1, f1, w1, g, xTail0 v f, yTail_f s2 s0 s1, h⟩
theorem refNO {c : Nat → Nat} {n i : Nat} {v : Nat → Int32} {f : Nat → Nat → Int32} {v1 : Nat → Int32} {f1 : Nat → Nat → Int32} {w1 : Int64} {g : Nat → Int64} (hc : ∀ k, k < n → c k < 256) (h : TP c n i v f v1 f1 w1) : LNO c n (xmB (gsX_X6_refuse_1 NF v f)) (gsY_X11_readLine_1_J8 NF v1 f1 w1 g) := by
  obtain ⟨v', v1', a, b, d⟩ := yl_end (NF := NF) (g := g) hc h
  exact ⟨v', f, v1', f1, w1, g, by rw [a]; exact xmB0 _ _, b, d⟩
theorem XSref {c : Nat → Nat} {n i : Nat} {v : Nat → Int32} {f : Nat → Nat → Int32} (hc : ∀ k, k < n → c k < 256) (C : CX c n i v) : ∃ v', gsX_X6_refuse_1 NF v f = (0, v', f) ∧ True := ⟨_, (xRef hc C).trans rfl, trivial⟩
theorem illPair {c : Nat → Nat} {n i a b t : Nat} {v : Nat → Int32} {f : Nat → Nat → Int32} {v1 : Nat → Int32} {f1 : Nat → Nat → Int32} {w1 : Int64} {g : Nat → Int64} (hc : ∀ k, k < n → c k < 256) (h : LR c n v f v1 f1 w1 g i a b t) (hk : tk_k c n i = 103) (hb : t % 2 = 0) :
    LOK NF c n (match gsX_X6_opened_1 NF 103 v f with | (r24, v26, f27) => if r24 = 1 then xTail NF (gsX_X6_expression_1 NF v26 f27) else (0, v26, f27)) (yT NF (gsY_X11_formula_1 NF v1 f1 w1 g)) (a + b + tBits t) ∨ LNO c n (match gsX_X6_opened_1 NF 103 v f with | (r24, v26, f27) => if r24 = 1 then xTail NF (gsX_X6_expression_1 NF v26 f27) else (0, v26, f27)) (yT NF (gsY_X11_formula_1 NF v1 f1 w1 g)) := by
  obtain ⟨h0, ⟨p7, p8, p2⟩, ⟨a1, a2, a3⟩, ⟨b1, b2, b3⟩, m, d, n1, n2, ⟨t0, t6, t15, t30, t31, t32, t33, t34⟩, ⟨s1, s2, s3, s4, s5, s6⟩, o1, o2⟩ := h
  obtain ⟨u1, u2⟩ := opn t t0 0 (by decide)
  have hb' : t / 2 ^ 0 % 2 = 0 := by simpa using hb
  obtain ⟨u2, u3, u4, u5⟩ := u2 hb'
  obtain ⟨q1, q2, q3⟩ := o1 hb
  obtain ⟨T, T1, C, C1, hf⟩ := h0
  obtain ⟨v2, e2, c2, x2⟩ := advX (NF := NF) (i := i) (T.upd (k := 6) (x := nI (t + 2 ^ 0)) (by decide)) (upS (k := 6) (x := nI (t + 2 ^ 0)) (by decide) (by decide) (by decide) (by decide) C).2.2.1
  have eO : gsX_X6_opened_1 NF 103 v f = (1, v2, f) := by
    have : gsX_X6_opened_1 NF (nI (103 + 0)) v f = (1, v2, f) := by
      simp only [gsX_X6_opened_1, t6]
      rw [if_pos (u1.mpr hb'), u2, e2]
    exact this
  rw [eO]
  have red : (match ((1 : Int32), v2, f) with | (r24, v26, f27) => if r24 = 1 then xTail NF (gsX_X6_expression_1 NF v26 f27) else (0, v26, f27)) = xTail NF (gsX_X6_expression_1 NF v2 f) := if_pos rfl
  rw [red]
  have T2 : TX c n v2 f := (T.upd (k := 6) (x := nI (t + 2 ^ 0)) (by decide)).of (x2 1 (by decide) (by decide) (by decide) (by decide)) rfl
  have XX : ∀ k, 7 ≤ k → v2 k = v k := fun k hk => (x2 k (by omega) (by omega) (by omega) (by omega)).trans (pk_un (by omega))
  rcases formPair (NF := NF) (g := g) hc T2 T1 c2 ((XX 16 (by decide)).trans q1) ((XX 17 (by decide)).trans q2) C1 (by omega) hf q3 with ⟨v3, f3, v4, f4, w4, j, own, out, k1, k2, k3, k4, k5, k6, k7⟩ | ⟨v3, f3, v4, f4, w4, s, j, k1, k2, k3, k4, k5, k6⟩
  · rw [k1, k2]
    have hT3 := XS.t T2 k3
    have hT4 := YR.t (T1.upd (k := 15) (x := 1) (by decide)) k4
    have hf4 := YR.f1 k4 ((pk_un (by decide)).trans hf)
    have e0 := u5 0 (by decide)
    have par : (t + 2 ^ 0) % 2 = 1 := by simpa using e0
    obtain ⟨kc, kv, kf, k16, k17, ko⟩ := k3
    obtain ⟨lc, lv, lf, l8, l10, l11, l13, l14, lo, ls⟩ := k4
    have X3 : ∀ k, 7 ≤ k → k ≠ 16 → k ≠ 17 → v3 k = v k := fun k hk z1 z2 => (kv k (by omega) (by omega) (by omega) (by omega) z1 z2).trans (XX k hk)
    have Y4' : ∀ k, (k = 2 ∨ k = 9 ∨ k = 12 ∨ 16 ≤ k) → v4 k = v1 k := fun k hk => (lv k (by omega) (by omega) (by omega) (by omega) (by omega) (by omega) (by omega) (by omega) (by omega)).trans (pk_un (by omega))
    have lr : LR c n v3 f3 v4 f4 w4 g j a b (t + 2 ^ 0) := by
      refine ⟨⟨hT3, hT4, kc, lc, hf4⟩, ⟨(X3 7 (by decide) (by decide) (by decide)).trans p7, (X3 8 (by decide) (by decide) (by decide)).trans p8, (Y4' 2 (by decide)).trans p2⟩, ⟨(X3 9 (by decide) (by decide) (by decide)).trans a1, (Y4' 17 (by decide)).trans a2, a3⟩, ⟨(X3 10 (by decide) (by decide) (by decide)).trans b1, (Y4' 18 (by decide)).trans b2, b3⟩, fun z hz => ?_, fun z hz => ?_, fun z hz => ?_, fun z hz => ?_, ⟨u3, ?_, ?_, ?_, ?_, ?_, ?_, ?_⟩, ⟨?_, ?_, ?_, ?_, ?_, ?_⟩, fun z => ?_, fun _ => ⟨out, own, k16, l8, k6, ko, lo, k17, l11, k5, k7⟩⟩
      · rw [kf 1 (by decide) (by decide), lf 9 (by decide) (by decide) (by decide), lf 10 (by decide) (by decide) (by decide), lf 11 (by decide) (by decide) (by decide)]; exact m z hz
      · rw [kf 2 (by decide) (by decide), lf 12 (by decide) (by decide) (by decide), lf 13 (by decide) (by decide) (by decide), lf 14 (by decide) (by decide) (by decide), lf 15 (by decide) (by decide) (by decide)]; exact d z hz
      · rw [kf 7 (by decide) (by decide)]; exact n1 z hz
      · rw [kf 8 (by decide) (by decide)]; exact n2 z hz
      · exact (kv 6 (by decide) (by decide) (by decide) (by decide) (by decide) (by decide)).trans ((x2 6 (by decide) (by decide) (by decide) (by decide)).trans pk_us)
      · rw [par]; exact (lv 15 (by decide) (by decide) (by decide) (by decide) (by decide) (by decide) (by decide) (by decide) (by decide)).trans pk_us
      · rw [Y4' 30 (by decide), show (t + 2 ^ 0) / 2 % 2 = t / 2 % 2 from u5 1 (by decide)]; exact t30
      · rw [Y4' 31 (by decide), show (t + 2 ^ 0) / 4 % 2 = t / 4 % 2 from u5 2 (by decide)]; exact t31
      · rw [Y4' 32 (by decide), show (t + 2 ^ 0) / 8 % 2 = t / 8 % 2 from u5 3 (by decide)]; exact t32
      · rw [Y4' 33 (by decide), show (t + 2 ^ 0) / 16 % 2 = t / 16 % 2 from u5 4 (by decide)]; exact t33
      · rw [Y4' 34 (by decide), show (t + 2 ^ 0) / 32 % 2 = t / 32 % 2 from u5 5 (by decide)]; exact t34
      · rw [X3 11 (by decide) (by decide) (by decide), Y4' 19 (by decide)]; exact s1
      · rw [X3 12 (by decide) (by decide) (by decide), Y4' 20 (by decide)]; exact s2
      · rw [X3 13 (by decide) (by decide) (by decide), Y4' 21 (by decide)]; exact s3
      · rw [X3 14 (by decide) (by decide) (by decide), Y4' 22 (by decide)]; exact s4
      · rw [X3 15 (by decide) (by decide) (by decide), Y4' 23 (by decide)]; exact s5
      · rw [X3 11 (by decide) (by decide) (by decide), X3 12 (by decide) (by decide) (by decide), X3 13 (by decide) (by decide) (by decide), X3 14 (by decide) (by decide) (by decide), X3 15 (by decide) (by decide) (by decide)]; exact s6
      · omega
    exact tailOK hc lr (by omega)
  · rw [k1, k2]
    refine Or.inr (tailNO ⟨s, j, k5, k6, k3.1, k4.1, k3.2.1, k4.2.1⟩)
theorem linePair {c : Nat → Nat} {n i a b t : Nat} {v : Nat → Int32} {f : Nat → Nat → Int32} {v1 : Nat → Int32} {f1 : Nat → Nat → Int32} {w1 : Int64} {g : Nat → Int64} (hc : ∀ k, k < n → c k < 256) (h : LR c n v f v1 f1 w1 g i a b t) : LOK NF c n (gsX_X6_line_1 NF v f) (gsY_X11_readLine_1 NF v1 f1 w1 g) (a + b + tBits t) ∨ LNO c n (gsX_X6_line_1 NF v f) (gsY_X11_readLine_1 NF v1 f1 w1 g) := by
  have hkl := tk_lt hc i
  have h' := h
  obtain ⟨h0, ⟨p7, p8, p2⟩, ⟨a1, a2, a3⟩, ⟨b1, b2, b3⟩, m, d, n1, n2, ⟨t0, t6, t15, t30, t31, t32, t33, t34⟩, ⟨s1, s2, s3, s4, s5, s6⟩, o1, o2⟩ := h
  have C := h0.2.2.1
  have C1 := h0.2.2.2.1
  have eL : gsX_X6_line_1 NF v f = (if tk_k c n i = 101 then xTail NF (gsX_X6_manLine_1 NF v f) else if tk_k c n i = 102 then xTail NF (gsX_X6_coatLine_1 NF v f) else if tk_k c n i = 103 then (match gsX_X6_opened_1 NF 103 v f with | (r24, v26, f27) => if r24 = 1 then xTail NF (gsX_X6_expression_1 NF v26 f27) else (0, v26, f27)) else if tk_k c n i = 104 then xTail NF (gsX_X6_settingLine_1 NF 999 v f) else if tk_k c n i = 105 then xTail NF (gsX_X6_settingLine_1 NF 999 v f) else if tk_k c n i = 106 then xTail NF (gsX_X6_settingLine_1 NF 99 v f) else if tk_k c n i = 107 then xTail NF (gsX_X6_settingLine_1 NF 100 v f) else if tk_k c n i = 108 then xTail NF (gsX_X6_settingLine_1 NF 999 v f) else xmB (gsX_X6_refuse_1 NF v f)) := by
    unfold gsX_X6_line_1
    rw [C.1]
    by_cases e101 : tk_k c n i = 101
    · rw [if_pos (show nI (tk_k c n i) = (101 : Int32) by rw [e101]; rfl), if_pos e101]; rfl
    rw [if_neg (nlit 101 101 rfl (by omega) (by decide) e101), if_neg e101]
    by_cases e102 : tk_k c n i = 102
    · rw [if_pos (show nI (tk_k c n i) = (102 : Int32) by rw [e102]; rfl), if_pos e102]; rfl
    rw [if_neg (nlit 102 102 rfl (by omega) (by decide) e102), if_neg e102]
    by_cases e103 : tk_k c n i = 103
    · rw [if_pos (show nI (tk_k c n i) = (103 : Int32) by rw [e103]; rfl), if_pos e103]; rfl
    rw [if_neg (nlit 103 103 rfl (by omega) (by decide) e103), if_neg e103]
    by_cases e104 : tk_k c n i = 104
    · rw [if_pos (show nI (tk_k c n i) = (104 : Int32) by rw [e104]; rfl), if_pos e104]; rfl
    rw [if_neg (nlit 104 104 rfl (by omega) (by decide) e104), if_neg e104]
    by_cases e105 : tk_k c n i = 105
    · rw [if_pos (show nI (tk_k c n i) = (105 : Int32) by rw [e105]; rfl), if_pos e105]; rfl
    rw [if_neg (nlit 105 105 rfl (by omega) (by decide) e105), if_neg e105]
    by_cases e106 : tk_k c n i = 106
    · rw [if_pos (show nI (tk_k c n i) = (106 : Int32) by rw [e106]; rfl), if_pos e106]; rfl
    rw [if_neg (nlit 106 106 rfl (by omega) (by decide) e106), if_neg e106]
    by_cases e107 : tk_k c n i = 107
    · rw [if_pos (show nI (tk_k c n i) = (107 : Int32) by rw [e107]; rfl), if_pos e107]; rfl
    rw [if_neg (nlit 107 107 rfl (by omega) (by decide) e107), if_neg e107]
    by_cases e108 : tk_k c n i = 108
    · rw [if_pos (show nI (tk_k c n i) = (108 : Int32) by rw [e108]; rfl), if_pos e108]; rfl
    rw [if_neg (nlit 108 108 rfl (by omega) (by decide) e108), if_neg e108]
    rfl
  rw [eL]
  have refO : ∀ d, 1 ≤ d → d ≤ 5 → tk_k c n i = 103 + d → ¬ t / 2 ^ d % 2 = 0 → ∀ mo, xTail NF (gsX_X6_settingLine_1 NF mo v f) = xmB (gsX_X6_refuse_1 NF v f) := fun d h1 h2 hk hb mo => by
    obtain ⟨v', e, _⟩ := XSref (NF := NF) (f := f) hc C
    have eo := settF (NF := NF) (f := f) C h2 hk t0 t6 hb
    simp only [gsX_X6_settingLine_1, C.1, hk, eo, e, xmB0, ite01]
    exact xTail0 _ _
  by_cases e101 : tk_k c n i = 101
  · rw [if_pos e101, yl_101 hc C1, if_pos e101]
    by_cases ha : a < 6
    · rw [if_neg (show ¬ (6 : Int32) ≤ v1 17 by rw [a2]; exact nI_ge (b := 6) ha (by omega))]
      rcases manPair (NF := NF) (g := g) hc h0 (by omega) ha a1 a2 n1 with ⟨v', v1', w1', i', p, x, y, z, k1, k2, k3, k4, k5, k6, kb⟩ | ⟨v', v1', f', f1', w1', g', k1, k2, k3, _, _⟩
      · rw [k1, k2]
        exact tailOK hc ((h'.go k5 k6 k3).man ha k4 kb) (by omega)
      · rw [k1, k2]
        exact Or.inr (tailNO k3.lf)
    · rw [if_pos (show (6 : Int32) ≤ v1 17 by rw [a2]; exact nI_le (a := 6) (by omega) (by omega)), yl_102 hc C1, if_neg (show ¬ tk_k c n i = 102 by omega), yl_103 hc C1, if_neg (show ¬ tk_k c n i = 103 by omega), yl_104 hc C1, if_neg (show ¬ tk_k c n i = 104 by omega), yl_105 hc C1, if_neg (show ¬ tk_k c n i = 105 by omega), yl_106 hc C1, if_neg (show ¬ tk_k c n i = 106 by omega), yl_107 hc C1, if_neg (show ¬ tk_k c n i = 107 by omega), yl_108 hc C1, if_neg (show ¬ tk_k c n i = 108 by omega)]
      have eM : xTail NF (gsX_X6_manLine_1 NF v f) = xmB (gsX_X6_refuse_1 NF v f) := by
        obtain ⟨v', e, _⟩ := XSref (NF := NF) (f := f) hc C
        simp only [gsX_X6_manLine_1, a1]
        rw [if_neg (show ¬ nI a < (6 : Int32) from nI_nlt (b := 6) (by omega) (by omega)), e]
        simp only [ite01, xmB0]
        exact xTail0 _ _
      rw [eM]
      exact Or.inr (refNO hc h0)
  by_cases e102 : tk_k c n i = 102
  · rw [if_neg e101, if_pos e102, yl_101 hc C1, if_neg e101, yl_102 hc C1, if_pos e102]
    by_cases ha : b < 6
    · rw [if_neg (show ¬ (6 : Int32) ≤ v1 18 by rw [b2]; exact nI_ge (b := 6) ha (by omega))]
      rcases coatPair (NF := NF) (g := g) hc h0 (by omega) ha b1 b2 n2 with ⟨v', v1', w1', i', p, x, y, z, u, k1, k2, k3, k4, k5, k6, kb⟩ | ⟨v', v1', f', f1', w1', g', k1, k2, k3, _, _⟩
      · rw [k1, k2]
        exact tailOK hc ((h'.go k5 k6 k3).coat ha k4 kb) (by omega)
      · rw [k1, k2]
        exact Or.inr (tailNO k3.lf)
    · rw [if_pos (show (6 : Int32) ≤ v1 18 by rw [b2]; exact nI_le (a := 6) (by omega) (by omega)), yl_103 hc C1, if_neg (show ¬ tk_k c n i = 103 by omega), yl_104 hc C1, if_neg (show ¬ tk_k c n i = 104 by omega), yl_105 hc C1, if_neg (show ¬ tk_k c n i = 105 by omega), yl_106 hc C1, if_neg (show ¬ tk_k c n i = 106 by omega), yl_107 hc C1, if_neg (show ¬ tk_k c n i = 107 by omega), yl_108 hc C1, if_neg (show ¬ tk_k c n i = 108 by omega)]
      have eM : xTail NF (gsX_X6_coatLine_1 NF v f) = xmB (gsX_X6_refuse_1 NF v f) := by
        obtain ⟨v', e, _⟩ := XSref (NF := NF) (f := f) hc C
        simp only [gsX_X6_coatLine_1, b1]
        rw [if_neg (show ¬ nI b < (6 : Int32) from nI_nlt (b := 6) (by omega) (by omega)), e]
        simp only [ite01, xmB0]
        exact xTail0 _ _
      rw [eM]
      exact Or.inr (refNO hc h0)
  by_cases e103 : tk_k c n i = 103
  · rw [if_neg e101, if_neg e102, if_pos e103, yl_101 hc C1, if_neg e101, yl_102 hc C1, if_neg e102, yl_103 hc C1, if_pos e103]
    by_cases hb : t % 2 = 0
    · rw [if_pos (show v1 15 = 0 by rw [t15, hb]; rfl)]
      exact illPair hc h' e103 hb
    · rw [if_neg (show ¬ v1 15 = 0 by rw [t15, show t % 2 = 1 by omega]; decide), yl_104 hc C1, if_neg (show ¬ tk_k c n i = 104 by omega), yl_105 hc C1, if_neg (show ¬ tk_k c n i = 105 by omega), yl_106 hc C1, if_neg (show ¬ tk_k c n i = 106 by omega), yl_107 hc C1, if_neg (show ¬ tk_k c n i = 107 by omega), yl_108 hc C1, if_neg (show ¬ tk_k c n i = 108 by omega)]
      obtain ⟨v', e, _⟩ := XSref (NF := NF) (f := f) hc C
      have eo : gsX_X6_opened_1 NF 103 v f = xmB (gsX_X6_refuse_1 NF v f) := settF (NF := NF) (f := f) (d := 0) C (by decide) e103 t0 t6 (by simpa using hb)
      rw [eo]
      have eM : (match xmB (gsX_X6_refuse_1 NF v f) with | (r24, v26, f27) => if r24 = 1 then xTail NF (gsX_X6_expression_1 NF v26 f27) else (0, v26, f27)) = xmB (gsX_X6_refuse_1 NF v f) := by
        rw [e, xmB0]
        exact if_neg (by decide)
      rw [eM]
      exact Or.inr (refNO hc h0)
  by_cases e104 : tk_k c n i = 104
  · rw [if_neg e101, if_neg e102, if_neg e103, if_pos e104, yl_101 hc C1, if_neg e101, yl_102 hc C1, if_neg e102, yl_103 hc C1, if_neg e103, yl_104 hc C1, if_pos e104]
    by_cases hb : t / 2 ^ 1 % 2 = 0
    · rw [if_pos (show v1 30 = 0 by rw [t30, show t / 2 % 2 = 0 from hb]; rfl)]
      rcases settPair (NF := NF) (g := g) hc h0 (d := 1) (by decide) (by decide) e104 t0 t6 hb 999 (j := 1700885369) (by decide +kernel) with ⟨v', v1', w1', x, i', k1, k2, k3, k5, k6, kb⟩ | ⟨v', v1', w1', y, k1, k2, k3⟩
      · have k2 : gsY_X11_told_1 NF 1700885369 999 (upd v1 30 1) f1 w1 g = (x, v1', f1, w1', g) := k2
        rw [k1, k2]
        obtain ⟨l1, l2⟩ := LR.sett1 (x := x) kb h' hb k3 k5 k6
        exact tailOK hc l1 (by omega)
      · have k2 : gsY_X11_told_1 NF 1700885369 999 (upd v1 30 1) f1 w1 g = (y, v1', f1, w1', g) := k2
        rw [k1, k2]
        obtain ⟨s, j, q1, q2, q3, q4, q5, q6⟩ := k3.lf
        exact Or.inr (tailNO (v1 := upd v1' 19 y) ⟨s, j, q1, q2, q3, (pk_un (by decide)).trans q4, q5, (pk_un (by decide)).trans q6⟩)
    · have hb1 : t / 2 % 2 = 1 := by
        have q : ¬ t / 2 % 2 = 0 := hb
        omega
      rw [if_neg (show ¬ v1 30 = 0 by rw [t30, hb1]; decide), yl_105 hc C1, if_neg (show ¬ tk_k c n i = 105 by omega), yl_106 hc C1, if_neg (show ¬ tk_k c n i = 106 by omega), yl_107 hc C1, if_neg (show ¬ tk_k c n i = 107 by omega), yl_108 hc C1, if_neg (show ¬ tk_k c n i = 108 by omega), refO 1 (by decide) (by decide) e104 hb]
      exact Or.inr (refNO hc h0)
  by_cases e105 : tk_k c n i = 105
  · rw [if_neg e101, if_neg e102, if_neg e103, if_neg e104, if_pos e105, yl_101 hc C1, if_neg e101, yl_102 hc C1, if_neg e102, yl_103 hc C1, if_neg e103, yl_104 hc C1, if_neg e104, yl_105 hc C1, if_pos e105]
    by_cases hb : t / 2 ^ 2 % 2 = 0
    · rw [if_pos (show v1 31 = 0 by rw [t31, show t / 4 % 2 = 0 from hb]; rfl)]
      rcases settPair (NF := NF) (g := g) hc h0 (d := 2) (by decide) (by decide) e105 t0 t6 hb 999 (j := 1651469428) (by decide +kernel) with ⟨v', v1', w1', x, i', k1, k2, k3, k5, k6, kb⟩ | ⟨v', v1', w1', y, k1, k2, k3⟩
      · have k2 : gsY_X11_told_1 NF 1651469428 999 (upd v1 31 1) f1 w1 g = (x, v1', f1, w1', g) := k2
        rw [k1, k2]
        obtain ⟨l1, l2⟩ := LR.sett2 (x := x) kb h' hb k3 k5 k6
        exact tailOK hc l1 (by omega)
      · have k2 : gsY_X11_told_1 NF 1651469428 999 (upd v1 31 1) f1 w1 g = (y, v1', f1, w1', g) := k2
        rw [k1, k2]
        obtain ⟨s, j, q1, q2, q3, q4, q5, q6⟩ := k3.lf
        exact Or.inr (tailNO (v1 := upd v1' 20 y) ⟨s, j, q1, q2, q3, (pk_un (by decide)).trans q4, q5, (pk_un (by decide)).trans q6⟩)
    · have hb1 : t / 4 % 2 = 1 := by
        have q : ¬ t / 4 % 2 = 0 := hb
        omega
      rw [if_neg (show ¬ v1 31 = 0 by rw [t31, hb1]; decide), yl_106 hc C1, if_neg (show ¬ tk_k c n i = 106 by omega), yl_107 hc C1, if_neg (show ¬ tk_k c n i = 107 by omega), yl_108 hc C1, if_neg (show ¬ tk_k c n i = 108 by omega), refO 2 (by decide) (by decide) e105 hb]
      exact Or.inr (refNO hc h0)
  by_cases e106 : tk_k c n i = 106
  · rw [if_neg e101, if_neg e102, if_neg e103, if_neg e104, if_neg e105, if_pos e106, yl_101 hc C1, if_neg e101, yl_102 hc C1, if_neg e102, yl_103 hc C1, if_neg e103, yl_104 hc C1, if_neg e104, yl_105 hc C1, if_neg e105, yl_106 hc C1, if_pos e106]
    by_cases hb : t / 2 ^ 3 % 2 = 0
    · rw [if_pos (show v1 32 = 0 by rw [t32, show t / 8 % 2 = 0 from hb]; rfl)]
      rcases settPair (NF := NF) (g := g) hc h0 (d := 3) (by decide) (by decide) e106 t0 t6 hb 99 (j := 1818848101) (by decide +kernel) with ⟨v', v1', w1', x, i', k1, k2, k3, k5, k6, kb⟩ | ⟨v', v1', w1', y, k1, k2, k3⟩
      · have k2 : gsY_X11_told_1 NF 1818848101 99 (upd v1 32 1) f1 w1 g = (x, v1', f1, w1', g) := k2
        rw [k1, k2]
        obtain ⟨l1, l2⟩ := LR.sett3 (x := x) kb h' hb k3 k5 k6
        exact tailOK hc l1 (by omega)
      · have k2 : gsY_X11_told_1 NF 1818848101 99 (upd v1 32 1) f1 w1 g = (y, v1', f1, w1', g) := k2
        rw [k1, k2]
        obtain ⟨s, j, q1, q2, q3, q4, q5, q6⟩ := k3.lf
        exact Or.inr (tailNO (v1 := upd v1' 21 y) ⟨s, j, q1, q2, q3, (pk_un (by decide)).trans q4, q5, (pk_un (by decide)).trans q6⟩)
    · have hb1 : t / 8 % 2 = 1 := by
        have q : ¬ t / 8 % 2 = 0 := hb
        omega
      rw [if_neg (show ¬ v1 32 = 0 by rw [t32, hb1]; decide), yl_107 hc C1, if_neg (show ¬ tk_k c n i = 107 by omega), yl_108 hc C1, if_neg (show ¬ tk_k c n i = 108 by omega), refO 3 (by decide) (by decide) e106 hb]
      exact Or.inr (refNO hc h0)
  by_cases e107 : tk_k c n i = 107
  · rw [if_neg e101, if_neg e102, if_neg e103, if_neg e104, if_neg e105, if_neg e106, if_pos e107, yl_101 hc C1, if_neg e101, yl_102 hc C1, if_neg e102, yl_103 hc C1, if_neg e103, yl_104 hc C1, if_neg e104, yl_105 hc C1, if_neg e105, yl_106 hc C1, if_neg e106, yl_107 hc C1, if_pos e107]
    by_cases hb : t / 2 ^ 4 % 2 = 0
    · rw [if_pos (show v1 33 = 0 by rw [t33, show t / 16 % 2 = 0 from hb]; rfl)]
      rcases settPair (NF := NF) (g := g) hc h0 (d := 4) (by decide) (by decide) e107 t0 t6 hb 100 (j := 1918986606) (by decide +kernel) with ⟨v', v1', w1', x, i', k1, k2, k3, k5, k6, kb⟩ | ⟨v', v1', w1', y, k1, k2, k3⟩
      · have k2 : gsY_X11_told_1 NF 1918986606 100 (upd v1 33 1) f1 w1 g = (x, v1', f1, w1', g) := k2
        rw [k1, k2]
        obtain ⟨l1, l2⟩ := LR.sett4 (x := x) kb h' hb k3 k5 k6
        exact tailOK hc l1 (by omega)
      · have k2 : gsY_X11_told_1 NF 1918986606 100 (upd v1 33 1) f1 w1 g = (y, v1', f1, w1', g) := k2
        rw [k1, k2]
        obtain ⟨s, j, q1, q2, q3, q4, q5, q6⟩ := k3.lf
        exact Or.inr (tailNO (v1 := upd v1' 22 y) ⟨s, j, q1, q2, q3, (pk_un (by decide)).trans q4, q5, (pk_un (by decide)).trans q6⟩)
    · have hb1 : t / 16 % 2 = 1 := by
        have q : ¬ t / 16 % 2 = 0 := hb
        omega
      rw [if_neg (show ¬ v1 33 = 0 by rw [t33, hb1]; decide), yl_108 hc C1, if_neg (show ¬ tk_k c n i = 108 by omega), refO 4 (by decide) (by decide) e107 hb]
      exact Or.inr (refNO hc h0)
  by_cases e108 : tk_k c n i = 108
  · rw [if_neg e101, if_neg e102, if_neg e103, if_neg e104, if_neg e105, if_neg e106, if_neg e107, if_pos e108, yl_101 hc C1, if_neg e101, yl_102 hc C1, if_neg e102, yl_103 hc C1, if_neg e103, yl_104 hc C1, if_neg e104, yl_105 hc C1, if_neg e105, yl_106 hc C1, if_neg e106, yl_107 hc C1, if_neg e107, yl_108 hc C1, if_pos e108]
    by_cases hb : t / 2 ^ 5 % 2 = 0
    · rw [if_pos (show v1 34 = 0 by rw [t34, show t / 32 % 2 = 0 from hb]; rfl)]
      rcases settPair (NF := NF) (g := g) hc h0 (d := 5) (by decide) (by decide) e108 t0 t6 hb 999 (j := 1685217655) (by decide +kernel) with ⟨v', v1', w1', x, i', k1, k2, k3, k5, k6, kb⟩ | ⟨v', v1', w1', y, k1, k2, k3⟩
      · have k2 : gsY_X11_told_1 NF 1685217655 999 (upd v1 34 1) f1 w1 g = (x, v1', f1, w1', g) := k2
        rw [k1, k2]
        obtain ⟨l1, l2⟩ := LR.sett5 (x := x) kb h' hb k3 k5 k6
        exact tailOK hc l1 (by omega)
      · have k2 : gsY_X11_told_1 NF 1685217655 999 (upd v1 34 1) f1 w1 g = (y, v1', f1, w1', g) := k2
        rw [k1, k2]
        obtain ⟨s, j, q1, q2, q3, q4, q5, q6⟩ := k3.lf
        exact Or.inr (tailNO (v1 := upd v1' 23 y) ⟨s, j, q1, q2, q3, (pk_un (by decide)).trans q4, q5, (pk_un (by decide)).trans q6⟩)
    · have hb1 : t / 32 % 2 = 1 := by
        have q : ¬ t / 32 % 2 = 0 := hb
        omega
      rw [if_neg (show ¬ v1 34 = 0 by rw [t34, hb1]; decide), refO 5 (by decide) (by decide) e108 hb]
      exact Or.inr (refNO hc h0)
  rw [if_neg e101, if_neg e102, if_neg e103, if_neg e104, if_neg e105, if_neg e106, if_neg e107, if_neg e108, yl_101 hc C1, if_neg e101, yl_102 hc C1, if_neg e102, yl_103 hc C1, if_neg e103, yl_104 hc C1, if_neg e104, yl_105 hc C1, if_neg e105, yl_106 hc C1, if_neg e106, yl_107 hc C1, if_neg e107, yl_108 hc C1, if_neg e108]
  exact Or.inr (refNO hc h0)
end
end
section
section
variable {NF : Nat}
theorem tB6 : ∀ t, t < 64 → tBits t ≤ 6 := by decide +kernel
theorem sb0 : SB 10 150 2 0 0 := by unfold SB; decide
theorem readLoop {c : Nat → Nat} {n : Nat} (hc : ∀ k, k < n → c k < 256) : ∀ (fu fu1 l i a b t : Nat) (v : Nat → Int32) (f : Nat → Nat → Int32) (v1 : Nat → Int32) (f1 : Nat → Nat → Int32) (w1 : Int64) (g : Nat → Int64), LR c n v f v1 f1 w1 g i a b t → l = a + b + tBits t → 20 - l < fu → 20 - l < fu1 →
    (∃ (v' : Nat → Int32) (f' : Nat → Nat → Int32) (v1' : Nat → Int32) (f1' : Nat → Nat → Int32) (w1' : Int64) (g' : Nat → Int64) (i' a' b' t' : Nat), gsX_X6_read_1_L7 NF fu (nI l) v f = (1, v', f') ∧ gsY_X11_readAll_1_L11 NF fu1 v1 f1 w1 g = (v1', f1', w1', g') ∧ LR c n v' f' v1' f1' w1' g' i' a' b' t') ∨ LNO c n (gsX_X6_read_1_L7 NF fu (nI l) v f) (gsY_X11_readAll_1_L11 NF fu1 v1 f1 w1 g) := by
  intro fu
  induction fu with
  | zero => intro fu1 l i a b t v f v1 f1 w1 g _ _ h; exact absurd h (Nat.not_lt_zero _)
  | succ fu ih =>
    intro fu1 l i a b t v f v1 f1 w1 g h hl hf hf1
    obtain ⟨fu1, rfl⟩ : ∃ z, fu1 = z + 1 := ⟨fu1 - 1, by omega⟩
    have hk := tk_lt hc i
    have ht := tB6 t h.2.2.2.2.2.2.2.2.1.1
    have ha := h.2.2.1.2.2
    have hb := h.2.2.2.1.2.2
    obtain ⟨_, _, _, _, t0⟩ := tS40 _ hk
    simp only [gsX_X6_read_1_L7, gsY_X11_readAll_1_L11, h.1.2.2.1.1, h.1.2.2.2.1.2.1, h.1.2.2.2.2]
    rw [if_neg (show ¬ (1600 : Int32) ≤ nI l from nI_ge (b := 1600) (by omega) (by omega)), if_pos trivial]
    by_cases e : tk_k c n i = 0
    · rw [if_pos (show nI (tk_k c n i) = (0 : Int32) by rw [e]; rfl), if_pos (t0.mpr e)]
      exact Or.inl ⟨v, f, v1, f1, w1, g, i, a, b, t, rfl, rfl, h⟩
    · rw [if_neg (nlit 0 0 rfl (by omega) (by decide) e), if_neg (fun z => e (t0.mp z)), nI_1]
      rcases linePair (NF := NF) hc h with ⟨v', f', v1', f1', w1', g', i', a', b', t', e1, e2, e3, e4⟩ | ⟨v', f', v1', f1', w1', g', e1, e2, e3⟩
      · simp only [e1, e2, ite11, if_true]
        exact ih fu1 (l + 1) i' a' b' t' v' f' v1' f1' w1' g' e3 (by omega) (by omega) (by omega)
      · simp only [e1, e2, ite01]
        obtain ⟨s, s0, s1, s2⟩ := e3.s
        obtain ⟨fu1, rfl⟩ : ∃ z, fu1 = z + 1 := ⟨fu1 - 1, by omega⟩
        refine Or.inr ⟨v', f', v1', f1', w1', g', rfl, ?_, e3⟩
        simp only [gsY_X11_readAll_1_L11, s2]
        rw [if_neg (nI_ne0 s0 (by omega))]
def TAP (c : Nat → Nat) (n : Nat) (v : Nat → Int32) (f : Nat → Nat → Int32) (v1 : Nat → Int32) (f1 : Nat → Nat → Int32) : Prop := n ≤ 1600 ∧ v 1 = nI n ∧ v1 0 = nI n ∧ ∀ k, k < n → c k < 256 ∧ f 0 k = sb_b (c k) ∧ f1 0 k = nI (c k)
theorem readPair {c : Nat → Nat} {n : Nat} {v : Nat → Int32} {f : Nat → Nat → Int32} {v1 : Nat → Int32} {f1 : Nat → Nat → Int32} {w1 : Int64} {g : Nat → Int64} (h : TAP c n v f v1 f1) :
    (∃ (v' : Nat → Int32) (f' : Nat → Nat → Int32) (v1' : Nat → Int32) (f1' : Nat → Nat → Int32) (w1' : Int64) (g' : Nat → Int64) (i' a' b' t' : Nat), gsX_X6_read_1 NF v f = (1, v', f') ∧ gsY_X11_readAll_1 NF v1 f1 w1 g = (v1', f1', w1', g') ∧ LR c n v' f' v1' f1' w1' g' i' a' b' t') ∨ LNO c n (gsX_X6_read_1 NF v f) (gsY_X11_readAll_1 NF v1 f1 w1 g) := by
  obtain ⟨hn, h1, h2, h3⟩ := h
  have hc : ∀ k, k < n → c k < 256 := fun k hk => (h3 k hk).1
  have T : TX c n v f := ⟨h1, hn, fun k hk => ⟨(h3 k hk).1, (h3 k hk).2.1⟩⟩
  simp only [gsX_X6_read_1, gsX_X7_clear_1, gsX_X4_clear_1, gsX_X7_setDefaults_1, gsX_X9_rewind_1, gsY_X11_readAll_1]
  generalize hV : upd (upd (upd (upd (upd (upd (upd (upd (upd (upd (upd (upd (upd v 9 0) 10 0) 16 0) 17 0) 11 10) 12 150) 13 2) 14 0) 15 0) 6 0) 7 0) 8 (-1)) 4 0 = V
  generalize hU : upd (upd (upd (upd (upd (upd (upd (upd (upd (upd (upd (upd (upd (upd (upd (upd (upd (upd (upd v1 4 (v1 0)) 0 0) 3 0) 1 0) 2 (-1)) 17 0) 18 0) 19 10) 20 150) 21 2) 22 0) 23 0) 30 0) 31 0) 32 0) 33 0) 34 0) 15 0) 11 0 = U
  have TV : TX c n V f := T.of (by rw [← hV]; rfl) rfl
  have TU : TY c n U f1 := ⟨by rw [← hU]; exact h2, hn, fun k hk => ⟨(h3 k hk).1, (h3 k hk).2.2⟩⟩
  obtain ⟨v2, e2, x2, c2⟩ := xAdv (NF := NF) (b := 0) TV (by rw [← hV]; rfl) (Nat.zero_le _)
  obtain ⟨u2, w2, e3, y2, d2⟩ := yTok (NF := NF) (w := w1) (g := g) (b := 0) TU (by rw [← hU]; rfl) (Nat.zero_le _)
  rw [e2, e3]
  have X : ∀ k, 6 ≤ k → v2 k = V k := fun k hk => x2 k (by omega) (by omega) (by omega) (by omega)
  have Y : ∀ k, (k ≤ 2 ∨ 8 ≤ k) → u2 k = U k := fun k hk => y2 k (by omega) (by omega) (by omega) (by omega)
  have lr : LR c n v2 f u2 f1 w2 g 0 0 0 0 := by
    refine ⟨⟨TV.of (x2 1 (by decide) (by decide) (by decide) (by decide)) rfl, TU.of (y2 4 (by decide) (by decide) (by decide) (by decide)) rfl, c2, d2, ?_⟩, ⟨?_, ?_, ?_⟩, ⟨?_, ?_, by decide⟩, ⟨?_, ?_, by decide⟩, fun j hj => absurd hj (by omega), fun j hj => absurd hj (by omega), fun j hj => absurd hj (by omega), fun j hj => absurd hj (by omega), ⟨by decide, ?_, ?_, ?_, ?_, ?_, ?_, ?_⟩, ⟨?_, ?_, ?_, ?_, ?_, ?_⟩, fun _ => ⟨?_, ?_, ?_⟩, fun z => absurd z (by decide)⟩
    · rw [Y 1 (by decide), ← hU]; rfl
    · rw [X 7 (by decide), ← hV]; rfl
    · rw [X 8 (by decide), ← hV]; rfl
    · rw [Y 2 (by decide), ← hU]; rfl
    · rw [X 9 (by decide), ← hV]; rfl
    · rw [Y 17 (by decide), ← hU]; rfl
    · rw [X 10 (by decide), ← hV]; rfl
    · rw [Y 18 (by decide), ← hU]; rfl
    · rw [X 6 (by decide), ← hV]; rfl
    · rw [Y 15 (by decide), ← hU]; rfl
    · rw [Y 30 (by decide), ← hU]; rfl
    · rw [Y 31 (by decide), ← hU]; rfl
    · rw [Y 32 (by decide), ← hU]; rfl
    · rw [Y 33 (by decide), ← hU]; rfl
    · rw [Y 34 (by decide), ← hU]; rfl
    · rw [X 11 (by decide), Y 19 (by decide), ← hV, ← hU]; rfl
    · rw [X 12 (by decide), Y 20 (by decide), ← hV, ← hU]; rfl
    · rw [X 13 (by decide), Y 21 (by decide), ← hV, ← hU]; rfl
    · rw [X 14 (by decide), Y 22 (by decide), ← hV, ← hU]; rfl
    · rw [X 15 (by decide), Y 23 (by decide), ← hV, ← hU]; rfl
    · rw [X 11 (by decide), X 12 (by decide), X 13 (by decide), X 14 (by decide), X 15 (by decide), ← hV]; exact sb0
    · rw [X 16 (by decide), ← hV]; rfl
    · rw [X 17 (by decide), ← hV]; rfl
    · rw [Y 11 (by decide), ← hU]; rfl
  exact readLoop (NF := NF) hc (4294967296 + NF) (4294967296 + NF) 0 0 0 0 0 v2 f u2 f1 w2 g lr rfl (by omega) (by omega)
end
end
section
section
variable {NF : Nat} {v : Nat → Int32} {f : Nat → Nat → Int32} {v1 : Nat → Int32} {f1 : Nat → Nat → Int32} {w1 : Int64} {g : Nat → Int64}
def REL (v : Nat → Int32) (f : Nat → Nat → Int32) (v1 : Nat → Int32) (f1 : Nat → Nat → Int32) : Prop := (∃ (c : Nat → Nat) (n : Nat), TAP c n v f v1 f1) ∧ v 7 = v1 1 ∧ v 8 = v1 2
theorem REL.keep {v' : Nat → Int32} {f' : Nat → Nat → Int32} {v1' : Nat → Int32} {f1' : Nat → Nat → Int32} (h : REL v f v1 f1) (a1 : v' 1 = v 1) (a2 : f' 0 = f 0) (a3 : v' 7 = v 7) (a4 : v' 8 = v 8) (b1 : v1' 0 = v1 0) (b2 : f1' 0 = f1 0) (b3 : v1' 1 = v1 1) (b4 : v1' 2 = v1 2) : REL v' f' v1' f1' := by
  obtain ⟨⟨c, n, hn, h1, h2, h3⟩, h4, h5⟩ := h
  exact ⟨⟨c, n, hn, a1.trans h1, b1.trans h2, fun k hk => ⟨(h3 k hk).1, by rw [a2]; exact (h3 k hk).2.1, by rw [b2]; exact (h3 k hk).2.2⟩⟩, (a3.trans h4).trans b3.symm, (a4.trans h5).trans b4.symm⟩
theorem REL.fault (h : REL v f v1 f1) (p : Int32) : gsX_X10_fault_1 NF p v f = gsY_X11_fault_1 NF p v1 f1 w1 g := by
  simp only [gsX_X10_fault_1, gsY_X11_fault_1, h.2.1, h.2.2]
theorem TAP.less {c : Nat → Nat} {n m : Nat} (h : TAP c n v f v1 f1) (hm : m ≤ n) : TAP c m (upd v 1 (nI m)) f (upd v1 0 (nI m)) f1 :=
  ⟨Nat.le_trans hm h.1, rfl, rfl, fun k hk => h.2.2.2 k (Nat.lt_of_lt_of_le hk hm)⟩
theorem REL.ends {p r r' : Int32} {u : (Nat → Int32) × (Nat → Nat → Int32)} {u' : (Nat → Int32) × (Nat → Nat → Int32) × Int64 × (Nat → Int64)} (h : REL v f v1 f1) (e : gsX_X10_end_1 NF p v f = (r, u)) (e' : gsY_X11_end_1 NF p v1 f1 w1 g = (r', u')) : r = r' ∧ REL u.1 u.2 u'.1 u'.2.1 := by
  obtain ⟨⟨c, n, t⟩, h4, h5⟩ := h
  simp only [gsX_X10_end_1, t.2.1] at e
  simp only [gsY_X11_end_1, t.2.2.1] at e'
  by_cases c1 : p < 0
  · rw [if_pos c1] at e e'
    cases e; cases e'
    exact ⟨rfl, ⟨c, n, t⟩, h4, h5⟩
  · rw [if_neg c1] at e e'
    by_cases c2 : p ≤ nI n
    · rw [if_pos c2] at e e'
      cases e; cases e'
      obtain ⟨m, hm, rfl⟩ := nI_of c1
      exact ⟨rfl, ⟨c, m, t.less ((nI_leI hm (by have := t.1; omega)).mp c2)⟩, h4, h5⟩
    · rw [if_neg c2] at e e'
      cases e; cases e'
      exact ⟨rfl, ⟨c, n, t⟩, h4, h5⟩
theorem bfacts (q : Int32) : ∃ b, b < 256 ∧ q &&& 255 = nI b ∧ vp_nar .byte q.toInt8.toInt32 = sb_b b := by
  have hr : 0 ≤ (q &&& 255).toInt ∧ (q &&& 255).toInt < 256 := and_rng q (m := 255) (k := 8) (by decide) (by decide)
  obtain ⟨b, hb, e⟩ := nI_ofI hr.1
  have hb2 : b < 256 := by
    have h1 := hr.2
    rw [e, nI_toInt hb] at h1
    omega
  refine ⟨b, hb2, e, ?_⟩
  show q.toInt8.toInt32.toInt8.toInt32 = (nI b).toInt8.toInt32
  rw [Int8.toInt8_toInt32, ← e, Int32.toInt8_and, show (255 : Int32).toInt8 = -1 from by decide, Int8.and_neg_one]
theorem TAP.byte {c : Nat → Nat} {n : Nat} (h : TAP c n v f v1 f1) (hn : n < 1600) (q : Int32) : ∃ c', TAP c' (n + 1) (upd v 1 (v 1 + 1)) (upd2 f 0 (upd (f 0) (v 1).toNatClampNeg (vp_nar .byte q.toInt8.toInt32))) (upd v1 0 (v1 0 + 1)) (upd2 f1 0 (upd (f1 0) (v1 0).toNatClampNeg (q &&& 255))) := by
  obtain ⟨b, hb, e1, e2⟩ := bfacts q
  obtain ⟨_, h1, h2, h3⟩ := h
  rw [e1, e2, h1, h2, nI_clamp (by omega), nI_1]
  refine ⟨fun k => if k = n then b else c k, by omega, rfl, rfl, fun k hk => ?_⟩
  show (if k = n then b else c k) < 256 ∧ (if k = n then sb_b b else f 0 k) = sb_b (if k = n then b else c k) ∧ (if k = n then nI b else f1 0 k) = nI (if k = n then b else c k)
  by_cases e : k = n
  · rw [if_pos e, if_pos e, if_pos e]; exact ⟨hb, rfl, rfl⟩
  · rw [if_neg e, if_neg e, if_neg e]; exact h3 k (by omega)
theorem sh8 : ∀ j, j < 4 → ¬ nI (8 * (j + 1)) + (-8) < (0 : Int32) ∧ nI (8 * (j + 1)) + (-8) + (-8) = nI (8 * j) + (-8) := by decide +kernel
theorem appLoop (p : Int32) : ∀ (j fu fu1 n : Nat) (c : Nat → Nat) (v : Nat → Int32) (f : Nat → Nat → Int32) (v1 : Nat → Int32) (f1 : Nat → Nat → Int32), j ≤ 4 → j < fu → j < fu1 → n + j ≤ 1600 → TAP c n v f v1 f1 → ∃ (c' : Nat → Nat) (v' : Nat → Int32) (f' : Nat → Nat → Int32) (v1' : Nat → Int32) (f1' : Nat → Nat → Int32), gsX_X9_append_1_L1 NF p fu (nI (8 * j) + (-8)) v f = (v', f') ∧ gsY_X11_four_1_L1 NF p fu1 (nI (8 * j) + (-8)) v1 f1 w1 g = (v1', f1', w1, g) ∧ TAP c' (n + j) v' f' v1' f1' ∧ v' 7 = v 7 ∧ v' 8 = v 8 ∧ v1' 1 = v1 1 ∧ v1' 2 = v1 2 := by
  intro j
  induction j with
  | zero =>
    intro fu fu1 n c v f v1 f1 _ h1 h2 _ h
    obtain ⟨fu, rfl⟩ : ∃ z, fu = z + 1 := ⟨fu - 1, by omega⟩
    obtain ⟨fu1, rfl⟩ : ∃ z, fu1 = z + 1 := ⟨fu1 - 1, by omega⟩
    have l0 : nI (8 * 0) + (-8) < (0 : Int32) := by decide
    refine ⟨c, v, f, v1, f1, ?_, ?_, h, rfl, rfl, rfl, rfl⟩
    · simp only [gsX_X9_append_1_L1]
      exact if_pos l0
    · simp only [gsY_X11_four_1_L1]
      exact if_pos l0
  | succ j ih =>
    intro fu fu1 n c v f v1 f1 h4 h1 h2 h3 h
    obtain ⟨fu, rfl⟩ : ∃ z, fu = z + 1 := ⟨fu - 1, by omega⟩
    obtain ⟨fu1, rfl⟩ : ∃ z, fu1 = z + 1 := ⟨fu1 - 1, by omega⟩
    obtain ⟨l1, l2⟩ := sh8 j (by omega)
    have l3 : ¬ (1600 : Int32) ≤ v 1 := by
      rw [h.2.1]
      exact nI_ge (b := 1600) (by omega) (by omega)
    obtain ⟨c2, t2⟩ := h.byte (by omega) (p >>> ((nI (8 * (j + 1)) + (-8)) &&& 31))
    obtain ⟨c', v', f', v1', f1', e1, e2, t', k1, k2, k3, k4⟩ := ih fu fu1 (n + 1) c2 _ _ _ _ (by omega) (by omega) (by omega) (by omega) t2
    refine ⟨c', v', f', v1', f1', ?_, ?_, ?_, k1, k2, k3, k4⟩
    · simp only [gsX_X9_append_1_L1]
      rw [if_neg l1, if_neg l3, l2]
      exact e1
    · simp only [gsY_X11_four_1_L1]
      rw [if_neg l1, l2]
      exact e2
    · rw [show n + (j + 1) = n + 1 + j by omega]
      exact t'
theorem appPair {c : Nat → Nat} {n : Nat} (p : Int32) (h : TAP c n v f v1 f1) (hn : n + 4 ≤ 1600) : ∃ (c' : Nat → Nat) (v' : Nat → Int32) (f' : Nat → Nat → Int32) (v1' : Nat → Int32) (f1' : Nat → Nat → Int32), gsX_X9_append_1 NF p v f = (v', f') ∧ gsY_X11_four_1 NF p v1 f1 w1 g = (v1', f1', w1, g) ∧ TAP c' (n + 4) v' f' v1' f1' ∧ v' 7 = v 7 ∧ v' 8 = v 8 ∧ v1' 1 = v1 1 ∧ v1' 2 = v1 2 := by
  have q := appLoop (NF := NF) (w1 := w1) (g := g) p 4 (4294967296 + NF) (4294967296 + NF) n c v f v1 f1 (by omega) (by omega) (by omega) hn h
  rw [show nI (8 * 4) + (-8) = (24 : Int32) from by decide] at q
  exact q
theorem REL.feed {p1 p2 p3 p4 p5 r r' : Int32} {u : (Nat → Int32) × (Nat → Nat → Int32)} {u' : (Nat → Int32) × (Nat → Nat → Int32) × Int64 × (Nat → Int64)} (h : REL v f v1 f1) (e : gsX_X10_feed_1 NF p1 p2 p3 p4 p5 v f = (r, u)) (e' : gsY_X11_feed_1 NF p1 p2 p3 p4 p5 v1 f1 w1 g = (r', u')) : r = r' ∧ REL u.1 u.2 u'.1 u'.2.1 := by
  obtain ⟨⟨c, n, t⟩, h4, h5⟩ := h
  have hn := t.1
  have e20 : nI n + 20 = nI (n + 20) := nI_add n 20
  simp only [gsX_X10_feed_1, gsX_X9_hasRoom_1, t.2.1, e20] at e
  simp only [gsY_X11_feed_1, t.2.2.1, e20] at e'
  by_cases c1 : n + 20 ≤ 1600
  · rw [if_neg (show ¬ (1600 : Int32) < nI (n + 20) from nI_nlt (a := 1600) c1 (by decide)), ite11] at e
    rw [if_pos (show nI (n + 20) ≤ (1600 : Int32) from nI_le (b := 1600) c1 (by decide))] at e'
    obtain ⟨d1, x1, y1, z1, s1, m1, o1, t1, a1, b1, i1, j1⟩ := appPair (NF := NF) (w1 := w1) (g := g) p1 t (by omega)
    obtain ⟨d2, x2, y2, z2, s2, m2, o2, t2, a2, b2, i2, j2⟩ := appPair (NF := NF) (w1 := w1) (g := g) p2 t1 (by omega)
    obtain ⟨d3, x3, y3, z3, s3, m3, o3, t3, a3, b3, i3, j3⟩ := appPair (NF := NF) (w1 := w1) (g := g) p3 t2 (by omega)
    obtain ⟨d4, x4, y4, z4, s4, m4, o4, t4, a4, b4, i4, j4⟩ := appPair (NF := NF) (w1 := w1) (g := g) p4 t3 (by omega)
    obtain ⟨d5, x5, y5, z5, s5, m5, o5, t5, a5, b5, i5, j5⟩ := appPair (NF := NF) (w1 := w1) (g := g) p5 t4 (by omega)
    simp only [m1, m2, m3, m4, m5] at e
    simp only [o1, o2, o3, o4, o5] at e'
    cases e; cases e'
    refine ⟨t5.2.1.trans t5.2.2.1.symm, ⟨d5, _, t5⟩, ?_, ?_⟩
    · show x5 7 = z5 1
      rw [a5, a4, a3, a2, a1, i5, i4, i3, i2, i1]; exact h4
    · show x5 8 = z5 2
      rw [b5, b4, b3, b2, b1, j5, j4, j3, j2, j1]; exact h5
  · rw [if_pos (show (1600 : Int32) < nI (n + 20) from nI_lt (a := 1600) (by omega) (by omega)), ite01] at e
    rw [if_neg (show ¬ nI (n + 20) ≤ (1600 : Int32) from nI_ge (a := 1600) (by omega) (by omega))] at e'
    cases e; cases e'
    exact ⟨rfl, ⟨c, n, t⟩, h4, h5⟩
theorem n0_of {x : Int32} (h : x.toInt = 0) : x = nI 0 := Int32.toInt_inj.mp (h.trans (by decide))
theorem REL.reg {r r' : Int32} {u : (Nat → Int32) × (Nat → Nat → Int32)} {u' : (Nat → Int32) × (Nat → Nat → Int32) × Int64 × (Nat → Int64)} (h : REL v f v1 f1) (e : gsX_X10_regiment_1 NF v f = (r, u)) (z0 : (u.1 1).toInt = 0) (a7 : u.1 7 = (gsX_X6_read_1 NF v f).2.1 7) (a8 : u.1 8 = (gsX_X6_read_1 NF v f).2.1 8) (e' : gsY_X11_regiment_1 NF v1 f1 w1 g = (r', u')) (z1 : (u'.1 0).toInt = 0) (b1 : u'.1 1 = (gsY_X11_readAll_1 NF v1 f1 w1 g).1 1) (b2 : u'.1 2 = (gsY_X11_readAll_1 NF v1 f1 w1 g).1 2) (b3 : r' = (gsY_X11_readAll_1 NF v1 f1 w1 g).1 17 ∨ ¬ (gsY_X11_readAll_1 NF v1 f1 w1 g).1 1 ≤ 0) : r = r' ∧ REL u.1 u.2 u'.1 u'.2.1 := by
  obtain ⟨⟨c, n, t⟩, _, _⟩ := h
  have T0 : ∃ (c : Nat → Nat) (n : Nat), TAP c n u.1 u.2 u'.1 u'.2.1 := ⟨c, 0, Nat.zero_le _, n0_of z0, n0_of z1, fun k hk => absurd hk (Nat.not_lt_zero _)⟩
  rcases readPair (NF := NF) (w1 := w1) (g := g) t with ⟨v', f', v1', f1', w1', g', i', a', b', t', e1, e2, lr⟩ | ⟨v', f', v1', f1', w1', g', e1, e2, lf⟩
  · rw [e1] at a7 a8
    rw [e2] at b1 b2 b3
    have y1 : v1' 1 = 0 := lr.1.2.2.2.2
    have r17 : r' = v1' 17 := by
      rcases b3 with q | q
      · exact q
      · exact absurd (show v1' 1 ≤ 0 from (fa_le _ _).mpr (Int.le_of_eq (congrArg Int32.toInt y1))) q
    rcases hc : gsX_X7_copy_1 NF (upd v' 1 0) f' with ⟨v7, f8⟩
    rcases hm : gsX_X1_muster_1 NF v7 f8 with ⟨v10, f11⟩
    rcases hf : gsX_X5_forgetAll_1 NF v10 f11 with ⟨v13, f14⟩
    rcases h0 : gsX_X0_clear_1 NF v13 f14 with ⟨v16, f17⟩
    rcases h8 : gsX_X8_clear_1 NF v16 f17 with ⟨v19, f20⟩
    simp only [gsX_X10_regiment_1, e1, ite11, if_true, hc, hm, hf, h0, h8] at e
    have hr := congrArg (fun z => z.1) e
    have hr : v7 31 = r := hr
    have h31 := congrArg (fun z => z.1 31) hc
    have h31 : v' 9 = v7 31 := h31
    refine ⟨?_, T0, ?_, ?_⟩
    · rw [← hr, ← h31, r17, lr.2.2.1.1, lr.2.2.1.2.1]
    · rw [a7, b1]
      exact lr.2.1.1.trans y1.symm
    · rw [a8, b2]
      exact lr.2.1.2.1.trans lr.2.1.2.2.symm
  · obtain ⟨s, j, s0, s1, q1, q2, q3, q4⟩ := lf
    rw [e1] at a7 a8
    rw [e2] at b1 b2
    simp only [gsX_X10_regiment_1, e1, ite01] at e
    have hr := congrArg (fun z => z.1) e
    have hr : (-1 : Int32) = r := hr
    simp only [gsY_X11_regiment_1, e2] at e'
    rw [if_neg (show ¬ v1' 1 ≤ (0 : Int32) from by rw [q2]; exact nI_nle s0 (by omega))] at e'
    have hr' := congrArg (fun z => z.1) e'
    have hr' : (-1 : Int32) = r' := hr'
    refine ⟨hr.symm.trans hr', T0, ?_, ?_⟩
    · rw [a7, b1]
      exact q1.trans q2.symm
    · rw [a8, b2]
      exact q3.trans q4.symm
end
end
section
abbrev SY : Type := (Nat → Int32) × (Nat → Nat → Int32) × Int64 × (Nat → Int64)
abbrev SX : Type := (Nat → Int32) × (Nat → Nat → Int32)
theorem lpQ {S R : Type} (F : Nat → Int32 → S → R) (Q : R → Prop) (P : Nat → S → Prop) (n : Nat) (h1 : ∀ fu j s, j < n → P j s → (∃ s', P (j + 1) s' ∧ F (fu + 1) (nI j) s = F fu (nI (j + 1)) s') ∨ Q (F (fu + 1) (nI j) s)) (h2 : ∀ fu s, P n s → Q (F (fu + 1) (nI n) s)) : ∀ (k j fu : Nat) (s : S), j + k = n → k < fu → P j s → Q (F fu (nI j) s) := by
  intro k
  induction k with
  | zero =>
    intro j fu s hj hf hP
    obtain ⟨fu, rfl⟩ : ∃ z, fu = z + 1 := ⟨fu - 1, by omega⟩
    have e : j = n := by omega
    rw [e] at hP ⊢
    exact h2 fu s hP
  | succ k ih =>
    intro j fu s hj hf hP
    obtain ⟨fu, rfl⟩ : ∃ z, fu = z + 1 := ⟨fu - 1, by omega⟩
    rcases h1 fu j s (by omega) hP with ⟨s', a, b⟩ | q
    · rw [b]
      exact ih (j + 1) fu s' (by omega) (by omega) a
    · exact q
theorem nI_mulI (a b : Nat) : nI a * nI b = nI (a * b) := (Int32.ofNat_mul a b).symm
theorem lit_le {L : Int32} {b n : Nat} (hL : L = nI b) (h : b ≤ n) (hn : n < 2 ^ 31) : L ≤ nI n := by rw [hL]; exact nI_le h hn
theorem lit_nle {L : Int32} {b n : Nat} (hL : L = nI b) (h : n < b) (hb : b < 2 ^ 31) : ¬ L ≤ nI n := by rw [hL]; exact nI_ge h hb
theorem upd2_same {f : Nat → Nat → Int32} {q : Nat} : upd2 f q (f q) = f := by
  funext j
  unfold upd2
  by_cases e : j = q
  · rw [if_pos e, e]
  · rw [if_neg e]
end
section
section
variable {NF : Nat}
theorem yRegMa {vv : Nat → Int32} {V : Nat → Int32} {F0 : Nat → Nat → Int32} {W : Int64} {G : Nat → Int64} {n : Nat} (hn : vv 17 = nI n) (hb : n ≤ 6) : ∃ F' : Nat → Nat → Int32, (∀ q, q ≠ 16 → q ≠ 17 → q ≠ 18 → F' q = F0 q) ∧ (∀ i, ¬ i < n → F' 16 i = F0 16 i) ∧ (∀ i, ¬ i < n → F' 17 i = F0 17 i) ∧ (∀ i, ¬ i < n → F' 18 i = F0 18 i) ∧ (∀ k, k < n → F' 16 k = F0 9 k ∧ F' 17 k = F0 10 k ∧ F' 18 k = F0 11 k) ∧ gsY_X11_regiment_1_L12 NF vv (4294967296 + NF) 0 V F0 W G = gsY_X11_regiment_1_L16 NF vv (4294967296 + NF) 0 V F' W G := by
  refine lpQ (S := SY) (fun fu i s => gsY_X11_regiment_1_L12 NF vv fu i s.1 s.2.1 s.2.2.1 s.2.2.2) (fun r => ∃ F' : Nat → Nat → Int32, (∀ q, q ≠ 16 → q ≠ 17 → q ≠ 18 → F' q = F0 q) ∧ (∀ i, ¬ i < n → F' 16 i = F0 16 i) ∧ (∀ i, ¬ i < n → F' 17 i = F0 17 i) ∧ (∀ i, ¬ i < n → F' 18 i = F0 18 i) ∧ (∀ k, k < n → F' 16 k = F0 9 k ∧ F' 17 k = F0 10 k ∧ F' 18 k = F0 11 k) ∧ r = gsY_X11_regiment_1_L16 NF vv (4294967296 + NF) 0 V F' W G) (fun j s => ∃ F' : Nat → Nat → Int32, s = (V, F', W, G) ∧ (∀ q, q ≠ 16 → q ≠ 17 → q ≠ 18 → F' q = F0 q) ∧ (∀ i, ¬ i < n → F' 16 i = F0 16 i) ∧ (∀ i, ¬ i < n → F' 17 i = F0 17 i) ∧ (∀ i, ¬ i < n → F' 18 i = F0 18 i) ∧ (∀ k, k < j → F' 16 k = F0 9 k ∧ F' 17 k = F0 10 k ∧ F' 18 k = F0 11 k)) n ?_ ?_ n 0 (4294967296 + NF) (V, F0, W, G) (by omega) (by omega) ⟨F0, rfl, fun q _ _ _ => rfl, fun i _ => rfl, fun i _ => rfl, fun i _ => rfl, fun k hk => absurd hk (Nat.not_lt_zero _)⟩
  · intro fu j s hj hs
    obtain ⟨y, rfl, hF, hO16, hO17, hO18, hK⟩ := hs
    refine Or.inl ⟨(V, (upd2 (upd2 (upd2 y 16 (upd (y 16) j (y 9 j))) 17 (upd (y 17) j (y 10 j))) 18 (upd (y 18) j (y 11 j))), W, G), ⟨_, rfl, ?_, ?_, ?_, ?_, ?_⟩, ?_⟩
    · intro q h16 h17 h18
      exact (u2n h18).trans ((u2n h17).trans ((u2n h16).trans (hF q h16 h17 h18)))
    · intro i z0
      show (upd (y 16) j (y 9 j)) i = _
      rw [pk_un (by omega)]
      exact hO16 i z0
    · intro i z0
      show (upd (y 17) j (y 10 j)) i = _
      rw [pk_un (by omega)]
      exact hO17 i z0
    · intro i z0
      show (upd (y 18) j (y 11 j)) i = _
      rw [pk_un (by omega)]
      exact hO18 i z0
    · intro k hk
      show (upd (y 16) j (y 9 j)) k = F0 9 k ∧ (upd (y 17) j (y 10 j)) k = F0 10 k ∧ (upd (y 18) j (y 11 j)) k = F0 11 k
      by_cases e : k = j
      · subst e
        exact ⟨by rw [pk_us]; exact congrFun (hF 9 (by decide) (by decide) (by decide)) _, by rw [pk_us]; exact congrFun (hF 10 (by decide) (by decide) (by decide)) _, by rw [pk_us]; exact congrFun (hF 11 (by decide) (by decide) (by decide)) _⟩
      · obtain ⟨q0, q1, q2⟩ := hK k (by omega)
        exact ⟨by rw [pk_un (by omega)]; exact q0, by rw [pk_un (by omega)]; exact q1, by rw [pk_un (by omega)]; exact q2⟩
    · show gsY_X11_regiment_1_L12 NF vv (fu + 1) (nI j) V y W G = gsY_X11_regiment_1_L12 NF vv fu (nI (j + 1)) V (upd2 (upd2 (upd2 y 16 (upd (y 16) j (y 9 j))) 17 (upd (y 17) j (y 10 j))) 18 (upd (y 18) j (y 11 j))) W G
      simp only [gsY_X11_regiment_1_L12]
      rw [hn, if_neg (show ¬ nI n ≤ nI j from nI_ge hj (by omega)), nI_1, nI_clamp (show j < 2 ^ 31 by omega)]
      all_goals first | rfl | (simp only [upd2_2]; done) | (simp only [upd2_2]; rfl)
  · intro fu s hs
    obtain ⟨y, rfl, hF, hO16, hO17, hO18, hK⟩ := hs
    refine ⟨y, hF, hO16, hO17, hO18, hK, ?_⟩
    show gsY_X11_regiment_1_L12 NF vv (fu + 1) (nI n) V y W G = _
    simp only [gsY_X11_regiment_1_L12]
    rw [hn, if_pos (show nI n ≤ nI n from nI_le (Nat.le_refl _) (by omega))]
    all_goals rfl
theorem yRegCa {vv : Nat → Int32} {V : Nat → Int32} {F0 : Nat → Nat → Int32} {W : Int64} {G : Nat → Int64} {n : Nat} (hn : vv 18 = nI n) (hb : n ≤ 6) : ∃ F' : Nat → Nat → Int32, (∀ q, q ≠ 19 → q ≠ 20 → q ≠ 21 → q ≠ 22 → F' q = F0 q) ∧ (∀ i, ¬ i < n → F' 19 i = F0 19 i) ∧ (∀ i, ¬ i < n → F' 20 i = F0 20 i) ∧ (∀ i, ¬ i < n → F' 21 i = F0 21 i) ∧ (∀ i, ¬ i < n → F' 22 i = F0 22 i) ∧ (∀ k, k < n → F' 19 k = F0 12 k ∧ F' 20 k = F0 13 k ∧ F' 21 k = F0 14 k ∧ F' 22 k = F0 15 k) ∧ gsY_X11_regiment_1_L16 NF vv (4294967296 + NF) 0 V F0 W G = (match gsY_X11_begin_1 NF V F' W G with | (v21, f22, w23, g24) => (match gsY_X11_keepAir_1 NF v21 (upd2 f22 24 (upd (f22 24) (38 : Int32).toNatClampNeg (v21 23))) w23 g24 with | (v27, f28, w29, g30) => gsY_X11_regiment_1_L31 NF vv (4294967296 + NF) 0 (upd (upd (upd (upd v27 35 0) 36 0) 38 0) 37 0) f28 w29 g30)) := by
  refine lpQ (S := SY) (fun fu i s => gsY_X11_regiment_1_L16 NF vv fu i s.1 s.2.1 s.2.2.1 s.2.2.2) (fun r => ∃ F' : Nat → Nat → Int32, (∀ q, q ≠ 19 → q ≠ 20 → q ≠ 21 → q ≠ 22 → F' q = F0 q) ∧ (∀ i, ¬ i < n → F' 19 i = F0 19 i) ∧ (∀ i, ¬ i < n → F' 20 i = F0 20 i) ∧ (∀ i, ¬ i < n → F' 21 i = F0 21 i) ∧ (∀ i, ¬ i < n → F' 22 i = F0 22 i) ∧ (∀ k, k < n → F' 19 k = F0 12 k ∧ F' 20 k = F0 13 k ∧ F' 21 k = F0 14 k ∧ F' 22 k = F0 15 k) ∧ r = (match gsY_X11_begin_1 NF V F' W G with | (v21, f22, w23, g24) => (match gsY_X11_keepAir_1 NF v21 (upd2 f22 24 (upd (f22 24) (38 : Int32).toNatClampNeg (v21 23))) w23 g24 with | (v27, f28, w29, g30) => gsY_X11_regiment_1_L31 NF vv (4294967296 + NF) 0 (upd (upd (upd (upd v27 35 0) 36 0) 38 0) 37 0) f28 w29 g30))) (fun j s => ∃ F' : Nat → Nat → Int32, s = (V, F', W, G) ∧ (∀ q, q ≠ 19 → q ≠ 20 → q ≠ 21 → q ≠ 22 → F' q = F0 q) ∧ (∀ i, ¬ i < n → F' 19 i = F0 19 i) ∧ (∀ i, ¬ i < n → F' 20 i = F0 20 i) ∧ (∀ i, ¬ i < n → F' 21 i = F0 21 i) ∧ (∀ i, ¬ i < n → F' 22 i = F0 22 i) ∧ (∀ k, k < j → F' 19 k = F0 12 k ∧ F' 20 k = F0 13 k ∧ F' 21 k = F0 14 k ∧ F' 22 k = F0 15 k)) n ?_ ?_ n 0 (4294967296 + NF) (V, F0, W, G) (by omega) (by omega) ⟨F0, rfl, fun q _ _ _ _ => rfl, fun i _ => rfl, fun i _ => rfl, fun i _ => rfl, fun i _ => rfl, fun k hk => absurd hk (Nat.not_lt_zero _)⟩
  · intro fu j s hj hs
    obtain ⟨y, rfl, hF, hO19, hO20, hO21, hO22, hK⟩ := hs
    refine Or.inl ⟨(V, (upd2 (upd2 (upd2 (upd2 y 19 (upd (y 19) j (y 12 j))) 20 (upd (y 20) j (y 13 j))) 21 (upd (y 21) j (y 14 j))) 22 (upd (y 22) j (y 15 j))), W, G), ⟨_, rfl, ?_, ?_, ?_, ?_, ?_, ?_⟩, ?_⟩
    · intro q h19 h20 h21 h22
      exact (u2n h22).trans ((u2n h21).trans ((u2n h20).trans ((u2n h19).trans (hF q h19 h20 h21 h22))))
    · intro i z0
      show (upd (y 19) j (y 12 j)) i = _
      rw [pk_un (by omega)]
      exact hO19 i z0
    · intro i z0
      show (upd (y 20) j (y 13 j)) i = _
      rw [pk_un (by omega)]
      exact hO20 i z0
    · intro i z0
      show (upd (y 21) j (y 14 j)) i = _
      rw [pk_un (by omega)]
      exact hO21 i z0
    · intro i z0
      show (upd (y 22) j (y 15 j)) i = _
      rw [pk_un (by omega)]
      exact hO22 i z0
    · intro k hk
      show (upd (y 19) j (y 12 j)) k = F0 12 k ∧ (upd (y 20) j (y 13 j)) k = F0 13 k ∧ (upd (y 21) j (y 14 j)) k = F0 14 k ∧ (upd (y 22) j (y 15 j)) k = F0 15 k
      by_cases e : k = j
      · subst e
        exact ⟨by rw [pk_us]; exact congrFun (hF 12 (by decide) (by decide) (by decide) (by decide)) _, by rw [pk_us]; exact congrFun (hF 13 (by decide) (by decide) (by decide) (by decide)) _, by rw [pk_us]; exact congrFun (hF 14 (by decide) (by decide) (by decide) (by decide)) _, by rw [pk_us]; exact congrFun (hF 15 (by decide) (by decide) (by decide) (by decide)) _⟩
      · obtain ⟨q0, q1, q2, q3⟩ := hK k (by omega)
        exact ⟨by rw [pk_un (by omega)]; exact q0, by rw [pk_un (by omega)]; exact q1, by rw [pk_un (by omega)]; exact q2, by rw [pk_un (by omega)]; exact q3⟩
    · show gsY_X11_regiment_1_L16 NF vv (fu + 1) (nI j) V y W G = gsY_X11_regiment_1_L16 NF vv fu (nI (j + 1)) V (upd2 (upd2 (upd2 (upd2 y 19 (upd (y 19) j (y 12 j))) 20 (upd (y 20) j (y 13 j))) 21 (upd (y 21) j (y 14 j))) 22 (upd (y 22) j (y 15 j))) W G
      simp only [gsY_X11_regiment_1_L16]
      rw [hn, if_neg (show ¬ nI n ≤ nI j from nI_ge hj (by omega)), nI_1, nI_clamp (show j < 2 ^ 31 by omega)]
      all_goals first | rfl | (simp only [upd2_2]; done) | (simp only [upd2_2]; rfl)
  · intro fu s hs
    obtain ⟨y, rfl, hF, hO19, hO20, hO21, hO22, hK⟩ := hs
    refine ⟨y, hF, hO19, hO20, hO21, hO22, hK, ?_⟩
    show gsY_X11_regiment_1_L16 NF vv (fu + 1) (nI n) V y W G = _
    simp only [gsY_X11_regiment_1_L16]
    rw [hn, if_pos (show nI n ≤ nI n from nI_le (Nat.le_refl _) (by omega))]
    all_goals rfl
theorem yRegBa {vv : Nat → Int32} {V : Nat → Int32} {F0 : Nat → Nat → Int32} {W : Int64} {G : Nat → Int64} : ∃ F' : Nat → Nat → Int32, (∀ q, q ≠ 36 → F' q = F0 q) ∧ (∀ i, ¬ i < 3 → F' 36 i = F0 36 i) ∧ (∀ k, k < 3 → F' 36 k = vp_nar .boolean 0) ∧ gsY_X11_regiment_1_L31 NF vv (4294967296 + NF) 0 V F0 W G = (vv 17, V, F', W, G) := by
  refine lpQ (S := SY) (fun fu i s => gsY_X11_regiment_1_L31 NF vv fu i s.1 s.2.1 s.2.2.1 s.2.2.2) (fun r => ∃ F' : Nat → Nat → Int32, (∀ q, q ≠ 36 → F' q = F0 q) ∧ (∀ i, ¬ i < 3 → F' 36 i = F0 36 i) ∧ (∀ k, k < 3 → F' 36 k = vp_nar .boolean 0) ∧ r = (vv 17, V, F', W, G)) (fun j s => ∃ F' : Nat → Nat → Int32, s = (V, F', W, G) ∧ (∀ q, q ≠ 36 → F' q = F0 q) ∧ (∀ i, ¬ i < 3 → F' 36 i = F0 36 i) ∧ (∀ k, k < j → F' 36 k = vp_nar .boolean 0)) 3 ?_ ?_ 3 0 (4294967296 + NF) (V, F0, W, G) (by omega) (by omega) ⟨F0, rfl, fun q _ => rfl, fun i _ => rfl, fun k hk => absurd hk (Nat.not_lt_zero _)⟩
  · intro fu j s hj hs
    obtain ⟨y, rfl, hF, hO36, hK⟩ := hs
    refine Or.inl ⟨(V, (upd2 y 36 (upd (y 36) j (vp_nar .boolean 0))), W, G), ⟨_, rfl, ?_, ?_, ?_⟩, ?_⟩
    · intro q h36
      exact (u2n h36).trans (hF q h36)
    · intro i z0
      show (upd (y 36) j (vp_nar .boolean 0)) i = _
      rw [pk_un (by omega)]
      exact hO36 i z0
    · intro k hk
      show (upd (y 36) j (vp_nar .boolean 0)) k = vp_nar .boolean 0
      by_cases e : k = j
      · subst e
        exact by rw [pk_us]
      · exact by rw [pk_un (by omega)]; exact hK k (by omega)
    · show gsY_X11_regiment_1_L31 NF vv (fu + 1) (nI j) V y W G = gsY_X11_regiment_1_L31 NF vv fu (nI (j + 1)) V (upd2 y 36 (upd (y 36) j (vp_nar .boolean 0))) W G
      simp only [gsY_X11_regiment_1_L31]
      rw [if_neg (show ¬ (3 : Int32) ≤ nI j from lit_nle (b := 3) rfl hj (by decide)), nI_1, nI_clamp (show j < 2 ^ 31 by omega)]
      all_goals first | rfl | (simp only [upd2_2]; done) | (simp only [upd2_2]; rfl)
  · intro fu s hs
    obtain ⟨y, rfl, hF, hO36, hK⟩ := hs
    refine ⟨y, hF, hO36, hK, ?_⟩
    show gsY_X11_regiment_1_L31 NF vv (fu + 1) (nI 3) V y W G = _
    simp only [gsY_X11_regiment_1_L31]
    rw [if_pos (show (3 : Int32) ≤ nI 3 from lit_le (b := 3) rfl (Nat.le_refl _) (by decide))]
    all_goals rfl
theorem yRegMb {vv : Nat → Int32} {V : Nat → Int32} {F0 : Nat → Nat → Int32} {W : Int64} {G : Nat → Int64} {n : Nat} (hn : vv 17 = nI n) (hb : n ≤ 6) : ∃ F' : Nat → Nat → Int32, (∀ q, q ≠ 16 → q ≠ 17 → q ≠ 18 → F' q = F0 q) ∧ (∀ i, ¬ i < n → F' 16 i = F0 16 i) ∧ (∀ i, ¬ i < n → F' 17 i = F0 17 i) ∧ (∀ i, ¬ i < n → F' 18 i = F0 18 i) ∧ (∀ k, k < n → F' 16 k = F0 9 k ∧ F' 17 k = F0 10 k ∧ F' 18 k = F0 11 k) ∧ gsY_X11_regiment_1_L70 NF vv (4294967296 + NF) 0 V F0 W G = gsY_X11_regiment_1_L74 NF vv (4294967296 + NF) 0 V F' W G := by
  refine lpQ (S := SY) (fun fu i s => gsY_X11_regiment_1_L70 NF vv fu i s.1 s.2.1 s.2.2.1 s.2.2.2) (fun r => ∃ F' : Nat → Nat → Int32, (∀ q, q ≠ 16 → q ≠ 17 → q ≠ 18 → F' q = F0 q) ∧ (∀ i, ¬ i < n → F' 16 i = F0 16 i) ∧ (∀ i, ¬ i < n → F' 17 i = F0 17 i) ∧ (∀ i, ¬ i < n → F' 18 i = F0 18 i) ∧ (∀ k, k < n → F' 16 k = F0 9 k ∧ F' 17 k = F0 10 k ∧ F' 18 k = F0 11 k) ∧ r = gsY_X11_regiment_1_L74 NF vv (4294967296 + NF) 0 V F' W G) (fun j s => ∃ F' : Nat → Nat → Int32, s = (V, F', W, G) ∧ (∀ q, q ≠ 16 → q ≠ 17 → q ≠ 18 → F' q = F0 q) ∧ (∀ i, ¬ i < n → F' 16 i = F0 16 i) ∧ (∀ i, ¬ i < n → F' 17 i = F0 17 i) ∧ (∀ i, ¬ i < n → F' 18 i = F0 18 i) ∧ (∀ k, k < j → F' 16 k = F0 9 k ∧ F' 17 k = F0 10 k ∧ F' 18 k = F0 11 k)) n ?_ ?_ n 0 (4294967296 + NF) (V, F0, W, G) (by omega) (by omega) ⟨F0, rfl, fun q _ _ _ => rfl, fun i _ => rfl, fun i _ => rfl, fun i _ => rfl, fun k hk => absurd hk (Nat.not_lt_zero _)⟩
  · intro fu j s hj hs
    obtain ⟨y, rfl, hF, hO16, hO17, hO18, hK⟩ := hs
    refine Or.inl ⟨(V, (upd2 (upd2 (upd2 y 16 (upd (y 16) j (y 9 j))) 17 (upd (y 17) j (y 10 j))) 18 (upd (y 18) j (y 11 j))), W, G), ⟨_, rfl, ?_, ?_, ?_, ?_, ?_⟩, ?_⟩
    · intro q h16 h17 h18
      exact (u2n h18).trans ((u2n h17).trans ((u2n h16).trans (hF q h16 h17 h18)))
    · intro i z0
      show (upd (y 16) j (y 9 j)) i = _
      rw [pk_un (by omega)]
      exact hO16 i z0
    · intro i z0
      show (upd (y 17) j (y 10 j)) i = _
      rw [pk_un (by omega)]
      exact hO17 i z0
    · intro i z0
      show (upd (y 18) j (y 11 j)) i = _
      rw [pk_un (by omega)]
      exact hO18 i z0
    · intro k hk
      show (upd (y 16) j (y 9 j)) k = F0 9 k ∧ (upd (y 17) j (y 10 j)) k = F0 10 k ∧ (upd (y 18) j (y 11 j)) k = F0 11 k
      by_cases e : k = j
      · subst e
        exact ⟨by rw [pk_us]; exact congrFun (hF 9 (by decide) (by decide) (by decide)) _, by rw [pk_us]; exact congrFun (hF 10 (by decide) (by decide) (by decide)) _, by rw [pk_us]; exact congrFun (hF 11 (by decide) (by decide) (by decide)) _⟩
      · obtain ⟨q0, q1, q2⟩ := hK k (by omega)
        exact ⟨by rw [pk_un (by omega)]; exact q0, by rw [pk_un (by omega)]; exact q1, by rw [pk_un (by omega)]; exact q2⟩
    · show gsY_X11_regiment_1_L70 NF vv (fu + 1) (nI j) V y W G = gsY_X11_regiment_1_L70 NF vv fu (nI (j + 1)) V (upd2 (upd2 (upd2 y 16 (upd (y 16) j (y 9 j))) 17 (upd (y 17) j (y 10 j))) 18 (upd (y 18) j (y 11 j))) W G
      simp only [gsY_X11_regiment_1_L70]
      rw [hn, if_neg (show ¬ nI n ≤ nI j from nI_ge hj (by omega)), nI_1, nI_clamp (show j < 2 ^ 31 by omega)]
      all_goals first | rfl | (simp only [upd2_2]; done) | (simp only [upd2_2]; rfl)
  · intro fu s hs
    obtain ⟨y, rfl, hF, hO16, hO17, hO18, hK⟩ := hs
    refine ⟨y, hF, hO16, hO17, hO18, hK, ?_⟩
    show gsY_X11_regiment_1_L70 NF vv (fu + 1) (nI n) V y W G = _
    simp only [gsY_X11_regiment_1_L70]
    rw [hn, if_pos (show nI n ≤ nI n from nI_le (Nat.le_refl _) (by omega))]
    all_goals rfl
theorem yRegCb {vv : Nat → Int32} {V : Nat → Int32} {F0 : Nat → Nat → Int32} {W : Int64} {G : Nat → Int64} {n : Nat} (hn : vv 18 = nI n) (hb : n ≤ 6) : ∃ F' : Nat → Nat → Int32, (∀ q, q ≠ 19 → q ≠ 20 → q ≠ 21 → q ≠ 22 → F' q = F0 q) ∧ (∀ i, ¬ i < n → F' 19 i = F0 19 i) ∧ (∀ i, ¬ i < n → F' 20 i = F0 20 i) ∧ (∀ i, ¬ i < n → F' 21 i = F0 21 i) ∧ (∀ i, ¬ i < n → F' 22 i = F0 22 i) ∧ (∀ k, k < n → F' 19 k = F0 12 k ∧ F' 20 k = F0 13 k ∧ F' 21 k = F0 14 k ∧ F' 22 k = F0 15 k) ∧ gsY_X11_regiment_1_L74 NF vv (4294967296 + NF) 0 V F0 W G = (match gsY_X11_begin_1 NF V F' W G with | (v21, f22, w23, g24) => (match gsY_X11_keepAir_1 NF v21 (upd2 f22 24 (upd (f22 24) (38 : Int32).toNatClampNeg (v21 23))) w23 g24 with | (v27, f28, w29, g30) => gsY_X11_regiment_1_L89 NF vv (4294967296 + NF) 0 (upd (upd (upd (upd v27 35 0) 36 0) 38 0) 37 0) f28 w29 g30)) := by
  refine lpQ (S := SY) (fun fu i s => gsY_X11_regiment_1_L74 NF vv fu i s.1 s.2.1 s.2.2.1 s.2.2.2) (fun r => ∃ F' : Nat → Nat → Int32, (∀ q, q ≠ 19 → q ≠ 20 → q ≠ 21 → q ≠ 22 → F' q = F0 q) ∧ (∀ i, ¬ i < n → F' 19 i = F0 19 i) ∧ (∀ i, ¬ i < n → F' 20 i = F0 20 i) ∧ (∀ i, ¬ i < n → F' 21 i = F0 21 i) ∧ (∀ i, ¬ i < n → F' 22 i = F0 22 i) ∧ (∀ k, k < n → F' 19 k = F0 12 k ∧ F' 20 k = F0 13 k ∧ F' 21 k = F0 14 k ∧ F' 22 k = F0 15 k) ∧ r = (match gsY_X11_begin_1 NF V F' W G with | (v21, f22, w23, g24) => (match gsY_X11_keepAir_1 NF v21 (upd2 f22 24 (upd (f22 24) (38 : Int32).toNatClampNeg (v21 23))) w23 g24 with | (v27, f28, w29, g30) => gsY_X11_regiment_1_L89 NF vv (4294967296 + NF) 0 (upd (upd (upd (upd v27 35 0) 36 0) 38 0) 37 0) f28 w29 g30))) (fun j s => ∃ F' : Nat → Nat → Int32, s = (V, F', W, G) ∧ (∀ q, q ≠ 19 → q ≠ 20 → q ≠ 21 → q ≠ 22 → F' q = F0 q) ∧ (∀ i, ¬ i < n → F' 19 i = F0 19 i) ∧ (∀ i, ¬ i < n → F' 20 i = F0 20 i) ∧ (∀ i, ¬ i < n → F' 21 i = F0 21 i) ∧ (∀ i, ¬ i < n → F' 22 i = F0 22 i) ∧ (∀ k, k < j → F' 19 k = F0 12 k ∧ F' 20 k = F0 13 k ∧ F' 21 k = F0 14 k ∧ F' 22 k = F0 15 k)) n ?_ ?_ n 0 (4294967296 + NF) (V, F0, W, G) (by omega) (by omega) ⟨F0, rfl, fun q _ _ _ _ => rfl, fun i _ => rfl, fun i _ => rfl, fun i _ => rfl, fun i _ => rfl, fun k hk => absurd hk (Nat.not_lt_zero _)⟩
  · intro fu j s hj hs
    obtain ⟨y, rfl, hF, hO19, hO20, hO21, hO22, hK⟩ := hs
    refine Or.inl ⟨(V, (upd2 (upd2 (upd2 (upd2 y 19 (upd (y 19) j (y 12 j))) 20 (upd (y 20) j (y 13 j))) 21 (upd (y 21) j (y 14 j))) 22 (upd (y 22) j (y 15 j))), W, G), ⟨_, rfl, ?_, ?_, ?_, ?_, ?_, ?_⟩, ?_⟩
    · intro q h19 h20 h21 h22
      exact (u2n h22).trans ((u2n h21).trans ((u2n h20).trans ((u2n h19).trans (hF q h19 h20 h21 h22))))
    · intro i z0
      show (upd (y 19) j (y 12 j)) i = _
      rw [pk_un (by omega)]
      exact hO19 i z0
    · intro i z0
      show (upd (y 20) j (y 13 j)) i = _
      rw [pk_un (by omega)]
      exact hO20 i z0
    · intro i z0
      show (upd (y 21) j (y 14 j)) i = _
      rw [pk_un (by omega)]
      exact hO21 i z0
    · intro i z0
      show (upd (y 22) j (y 15 j)) i = _
      rw [pk_un (by omega)]
      exact hO22 i z0
    · intro k hk
      show (upd (y 19) j (y 12 j)) k = F0 12 k ∧ (upd (y 20) j (y 13 j)) k = F0 13 k ∧ (upd (y 21) j (y 14 j)) k = F0 14 k ∧ (upd (y 22) j (y 15 j)) k = F0 15 k
      by_cases e : k = j
      · subst e
        exact ⟨by rw [pk_us]; exact congrFun (hF 12 (by decide) (by decide) (by decide) (by decide)) _, by rw [pk_us]; exact congrFun (hF 13 (by decide) (by decide) (by decide) (by decide)) _, by rw [pk_us]; exact congrFun (hF 14 (by decide) (by decide) (by decide) (by decide)) _, by rw [pk_us]; exact congrFun (hF 15 (by decide) (by decide) (by decide) (by decide)) _⟩
      · obtain ⟨q0, q1, q2, q3⟩ := hK k (by omega)
        exact ⟨by rw [pk_un (by omega)]; exact q0, by rw [pk_un (by omega)]; exact q1, by rw [pk_un (by omega)]; exact q2, by rw [pk_un (by omega)]; exact q3⟩
    · show gsY_X11_regiment_1_L74 NF vv (fu + 1) (nI j) V y W G = gsY_X11_regiment_1_L74 NF vv fu (nI (j + 1)) V (upd2 (upd2 (upd2 (upd2 y 19 (upd (y 19) j (y 12 j))) 20 (upd (y 20) j (y 13 j))) 21 (upd (y 21) j (y 14 j))) 22 (upd (y 22) j (y 15 j))) W G
      simp only [gsY_X11_regiment_1_L74]
      rw [hn, if_neg (show ¬ nI n ≤ nI j from nI_ge hj (by omega)), nI_1, nI_clamp (show j < 2 ^ 31 by omega)]
      all_goals first | rfl | (simp only [upd2_2]; done) | (simp only [upd2_2]; rfl)
  · intro fu s hs
    obtain ⟨y, rfl, hF, hO19, hO20, hO21, hO22, hK⟩ := hs
    refine ⟨y, hF, hO19, hO20, hO21, hO22, hK, ?_⟩
    show gsY_X11_regiment_1_L74 NF vv (fu + 1) (nI n) V y W G = _
    simp only [gsY_X11_regiment_1_L74]
    rw [hn, if_pos (show nI n ≤ nI n from nI_le (Nat.le_refl _) (by omega))]
    all_goals rfl
theorem yRegBb {vv : Nat → Int32} {V : Nat → Int32} {F0 : Nat → Nat → Int32} {W : Int64} {G : Nat → Int64} : ∃ F' : Nat → Nat → Int32, (∀ q, q ≠ 36 → F' q = F0 q) ∧ (∀ i, ¬ i < 3 → F' 36 i = F0 36 i) ∧ (∀ k, k < 3 → F' 36 k = vp_nar .boolean 0) ∧ gsY_X11_regiment_1_L89 NF vv (4294967296 + NF) 0 V F0 W G = (vv 17, V, F', W, G) := by
  refine lpQ (S := SY) (fun fu i s => gsY_X11_regiment_1_L89 NF vv fu i s.1 s.2.1 s.2.2.1 s.2.2.2) (fun r => ∃ F' : Nat → Nat → Int32, (∀ q, q ≠ 36 → F' q = F0 q) ∧ (∀ i, ¬ i < 3 → F' 36 i = F0 36 i) ∧ (∀ k, k < 3 → F' 36 k = vp_nar .boolean 0) ∧ r = (vv 17, V, F', W, G)) (fun j s => ∃ F' : Nat → Nat → Int32, s = (V, F', W, G) ∧ (∀ q, q ≠ 36 → F' q = F0 q) ∧ (∀ i, ¬ i < 3 → F' 36 i = F0 36 i) ∧ (∀ k, k < j → F' 36 k = vp_nar .boolean 0)) 3 ?_ ?_ 3 0 (4294967296 + NF) (V, F0, W, G) (by omega) (by omega) ⟨F0, rfl, fun q _ => rfl, fun i _ => rfl, fun k hk => absurd hk (Nat.not_lt_zero _)⟩
  · intro fu j s hj hs
    obtain ⟨y, rfl, hF, hO36, hK⟩ := hs
    refine Or.inl ⟨(V, (upd2 y 36 (upd (y 36) j (vp_nar .boolean 0))), W, G), ⟨_, rfl, ?_, ?_, ?_⟩, ?_⟩
    · intro q h36
      exact (u2n h36).trans (hF q h36)
    · intro i z0
      show (upd (y 36) j (vp_nar .boolean 0)) i = _
      rw [pk_un (by omega)]
      exact hO36 i z0
    · intro k hk
      show (upd (y 36) j (vp_nar .boolean 0)) k = vp_nar .boolean 0
      by_cases e : k = j
      · subst e
        exact by rw [pk_us]
      · exact by rw [pk_un (by omega)]; exact hK k (by omega)
    · show gsY_X11_regiment_1_L89 NF vv (fu + 1) (nI j) V y W G = gsY_X11_regiment_1_L89 NF vv fu (nI (j + 1)) V (upd2 y 36 (upd (y 36) j (vp_nar .boolean 0))) W G
      simp only [gsY_X11_regiment_1_L89]
      rw [if_neg (show ¬ (3 : Int32) ≤ nI j from lit_nle (b := 3) rfl hj (by decide)), nI_1, nI_clamp (show j < 2 ^ 31 by omega)]
      all_goals first | rfl | (simp only [upd2_2]; done) | (simp only [upd2_2]; rfl)
  · intro fu s hs
    obtain ⟨y, rfl, hF, hO36, hK⟩ := hs
    refine ⟨y, hF, hO36, hK, ?_⟩
    show gsY_X11_regiment_1_L89 NF vv (fu + 1) (nI 3) V y W G = _
    simp only [gsY_X11_regiment_1_L89]
    rw [if_pos (show (3 : Int32) ≤ nI 3 from lit_le (b := 3) rfl (Nat.le_refl _) (by decide))]
    all_goals rfl
theorem yRegF {vv : Nat → Int32} {V : Nat → Int32} {F0 : Nat → Nat → Int32} {W : Int64} {G : Nat → Int64} {n : Nat} (hn : vv 8 = nI n) (hb : n ≤ 300) : ∃ F' : Nat → Nat → Int32, (∀ q, q ≠ 4 → q ≠ 5 → F' q = F0 q) ∧ (∀ i, ¬ i < n → F' 4 i = F0 4 i) ∧ (∀ i, ¬ i < n → F' 5 i = F0 5 i) ∧ (∀ k, k < n → F' 4 k = F0 2 k ∧ F' 5 k = F0 3 k) ∧ gsY_X11_regiment_1_L66 NF vv (4294967296 + NF) 0 V F0 W G = gsY_X11_regiment_1_L70 NF vv (4294967296 + NF) 0 V F' W G := by
  refine lpQ (S := SY) (fun fu i s => gsY_X11_regiment_1_L66 NF vv fu i s.1 s.2.1 s.2.2.1 s.2.2.2) (fun r => ∃ F' : Nat → Nat → Int32, (∀ q, q ≠ 4 → q ≠ 5 → F' q = F0 q) ∧ (∀ i, ¬ i < n → F' 4 i = F0 4 i) ∧ (∀ i, ¬ i < n → F' 5 i = F0 5 i) ∧ (∀ k, k < n → F' 4 k = F0 2 k ∧ F' 5 k = F0 3 k) ∧ r = gsY_X11_regiment_1_L70 NF vv (4294967296 + NF) 0 V F' W G) (fun j s => ∃ F' : Nat → Nat → Int32, s = (V, F', W, G) ∧ (∀ q, q ≠ 4 → q ≠ 5 → F' q = F0 q) ∧ (∀ i, ¬ i < n → F' 4 i = F0 4 i) ∧ (∀ i, ¬ i < n → F' 5 i = F0 5 i) ∧ (∀ k, k < j → F' 4 k = F0 2 k ∧ F' 5 k = F0 3 k)) n ?_ ?_ n 0 (4294967296 + NF) (V, F0, W, G) (by omega) (by omega) ⟨F0, rfl, fun q _ _ => rfl, fun i _ => rfl, fun i _ => rfl, fun k hk => absurd hk (Nat.not_lt_zero _)⟩
  · intro fu j s hj hs
    obtain ⟨y, rfl, hF, hO4, hO5, hK⟩ := hs
    refine Or.inl ⟨(V, (upd2 (upd2 y 4 (upd (y 4) j (y 2 j))) 5 (upd (y 5) j (y 3 j))), W, G), ⟨_, rfl, ?_, ?_, ?_, ?_⟩, ?_⟩
    · intro q h4 h5
      exact (u2n h5).trans ((u2n h4).trans (hF q h4 h5))
    · intro i z0
      show (upd (y 4) j (y 2 j)) i = _
      rw [pk_un (by omega)]
      exact hO4 i z0
    · intro i z0
      show (upd (y 5) j (y 3 j)) i = _
      rw [pk_un (by omega)]
      exact hO5 i z0
    · intro k hk
      show (upd (y 4) j (y 2 j)) k = F0 2 k ∧ (upd (y 5) j (y 3 j)) k = F0 3 k
      by_cases e : k = j
      · subst e
        exact ⟨by rw [pk_us]; exact congrFun (hF 2 (by decide) (by decide)) _, by rw [pk_us]; exact congrFun (hF 3 (by decide) (by decide)) _⟩
      · obtain ⟨q0, q1⟩ := hK k (by omega)
        exact ⟨by rw [pk_un (by omega)]; exact q0, by rw [pk_un (by omega)]; exact q1⟩
    · show gsY_X11_regiment_1_L66 NF vv (fu + 1) (nI j) V y W G = gsY_X11_regiment_1_L66 NF vv fu (nI (j + 1)) V (upd2 (upd2 y 4 (upd (y 4) j (y 2 j))) 5 (upd (y 5) j (y 3 j))) W G
      simp only [gsY_X11_regiment_1_L66]
      rw [hn, if_neg (show ¬ nI n ≤ nI j from nI_ge hj (by omega)), nI_1, nI_clamp (show j < 2 ^ 31 by omega)]
      all_goals first | rfl | (simp only [upd2_2]; done) | (simp only [upd2_2]; rfl)
  · intro fu s hs
    obtain ⟨y, rfl, hF, hO4, hO5, hK⟩ := hs
    refine ⟨y, hF, hO4, hO5, hK, ?_⟩
    show gsY_X11_regiment_1_L66 NF vv (fu + 1) (nI n) V y W G = _
    simp only [gsY_X11_regiment_1_L66]
    rw [hn, if_pos (show nI n ≤ nI n from nI_le (Nat.le_refl _) (by omega))]
    all_goals rfl
theorem yBeg1 {vv : Nat → Int32} {V : Nat → Int32} {F0 : Nat → Nat → Int32} {W : Int64} {G : Nat → Int64} : ∃ F' : Nat → Nat → Int32, (∀ q, q ≠ 24 → F' q = F0 q) ∧ (∀ i, ¬ i < 39 → F' 24 i = F0 24 i) ∧ (∀ k, k < 39 → F' 24 k = 0) ∧ gsY_X11_begin_1_L1 NF vv (4294967296 + NF) 0 V F0 W G = gsY_X11_begin_1_L3 NF vv (4294967296 + NF) 0 V F' W G := by
  refine lpQ (S := SY) (fun fu i s => gsY_X11_begin_1_L1 NF vv fu i s.1 s.2.1 s.2.2.1 s.2.2.2) (fun r => ∃ F' : Nat → Nat → Int32, (∀ q, q ≠ 24 → F' q = F0 q) ∧ (∀ i, ¬ i < 39 → F' 24 i = F0 24 i) ∧ (∀ k, k < 39 → F' 24 k = 0) ∧ r = gsY_X11_begin_1_L3 NF vv (4294967296 + NF) 0 V F' W G) (fun j s => ∃ F' : Nat → Nat → Int32, s = (V, F', W, G) ∧ (∀ q, q ≠ 24 → F' q = F0 q) ∧ (∀ i, ¬ i < 39 → F' 24 i = F0 24 i) ∧ (∀ k, k < j → F' 24 k = 0)) 39 ?_ ?_ 39 0 (4294967296 + NF) (V, F0, W, G) (by omega) (by omega) ⟨F0, rfl, fun q _ => rfl, fun i _ => rfl, fun k hk => absurd hk (Nat.not_lt_zero _)⟩
  · intro fu j s hj hs
    obtain ⟨y, rfl, hF, hO24, hK⟩ := hs
    refine Or.inl ⟨(V, (upd2 y 24 (upd (y 24) j 0)), W, G), ⟨_, rfl, ?_, ?_, ?_⟩, ?_⟩
    · intro q h24
      exact (u2n h24).trans (hF q h24)
    · intro i z0
      show (upd (y 24) j 0) i = _
      rw [pk_un (by omega)]
      exact hO24 i z0
    · intro k hk
      show (upd (y 24) j 0) k = 0
      by_cases e : k = j
      · subst e
        exact by rw [pk_us]
      · exact by rw [pk_un (by omega)]; exact hK k (by omega)
    · show gsY_X11_begin_1_L1 NF vv (fu + 1) (nI j) V y W G = gsY_X11_begin_1_L1 NF vv fu (nI (j + 1)) V (upd2 y 24 (upd (y 24) j 0)) W G
      simp only [gsY_X11_begin_1_L1]
      rw [if_neg (show ¬ (39 : Int32) ≤ nI j from lit_nle (b := 39) rfl hj (by decide)), nI_1, nI_clamp (show j < 2 ^ 31 by omega)]
      all_goals first | rfl | (simp only [upd2_2]; done) | (simp only [upd2_2]; rfl)
  · intro fu s hs
    obtain ⟨y, rfl, hF, hO24, hK⟩ := hs
    refine ⟨y, hF, hO24, hK, ?_⟩
    show gsY_X11_begin_1_L1 NF vv (fu + 1) (nI 39) V y W G = _
    simp only [gsY_X11_begin_1_L1]
    rw [if_pos (show (39 : Int32) ≤ nI 39 from lit_le (b := 39) rfl (Nat.le_refl _) (by decide))]
    all_goals rfl
theorem yBeg3 {vv : Nat → Int32} {V : Nat → Int32} {F0 : Nat → Nat → Int32} {W : Int64} {G : Nat → Int64} {n : Nat} (hn : vv 24 = nI n) (hb : n ≤ 6) : ∃ F' : Nat → Nat → Int32, (∀ q, q ≠ 24 → F' q = F0 q) ∧ (∀ i, ¬ i < n → ¬ (6 ≤ i ∧ i < 6 + n) → F' 24 i = F0 24 i) ∧ (∀ k, k < n → F' 24 k = F0 17 k ∧ F' 24 (6 + k) = -1) ∧ gsY_X11_begin_1_L3 NF vv (4294967296 + NF) 0 V F0 W G = gsY_X11_begin_1_L7 NF vv (4294967296 + NF) 0 V F' W G := by
  refine lpQ (S := SY) (fun fu i s => gsY_X11_begin_1_L3 NF vv fu i s.1 s.2.1 s.2.2.1 s.2.2.2) (fun r => ∃ F' : Nat → Nat → Int32, (∀ q, q ≠ 24 → F' q = F0 q) ∧ (∀ i, ¬ i < n → ¬ (6 ≤ i ∧ i < 6 + n) → F' 24 i = F0 24 i) ∧ (∀ k, k < n → F' 24 k = F0 17 k ∧ F' 24 (6 + k) = -1) ∧ r = gsY_X11_begin_1_L7 NF vv (4294967296 + NF) 0 V F' W G) (fun j s => ∃ F' : Nat → Nat → Int32, s = (V, F', W, G) ∧ (∀ q, q ≠ 24 → F' q = F0 q) ∧ (∀ i, ¬ i < n → ¬ (6 ≤ i ∧ i < 6 + n) → F' 24 i = F0 24 i) ∧ (∀ k, k < j → F' 24 k = F0 17 k ∧ F' 24 (6 + k) = -1)) n ?_ ?_ n 0 (4294967296 + NF) (V, F0, W, G) (by omega) (by omega) ⟨F0, rfl, fun q _ => rfl, fun i _ _ => rfl, fun k hk => absurd hk (Nat.not_lt_zero _)⟩
  · intro fu j s hj hs
    obtain ⟨y, rfl, hF, hO24, hK⟩ := hs
    refine Or.inl ⟨(V, (upd2 y 24 (upd (upd (y 24) j (y 17 j)) (6 + j) (-1))), W, G), ⟨_, rfl, ?_, ?_, ?_⟩, ?_⟩
    · intro q h24
      exact (u2n h24).trans (hF q h24)
    · intro i z0 z1
      show (upd (upd (y 24) j (y 17 j)) (6 + j) (-1)) i = _
      rw [pk_un (by omega), pk_un (by omega)]
      exact hO24 i z0 z1
    · intro k hk
      show (upd (upd (y 24) j (y 17 j)) (6 + j) (-1)) k = F0 17 k ∧ (upd (upd (y 24) j (y 17 j)) (6 + j) (-1)) (6 + k) = -1
      by_cases e : k = j
      · subst e
        exact ⟨by rw [pk_un (by omega), pk_us]; exact congrFun (hF 17 (by decide)) _, by rw [pk_us]⟩
      · obtain ⟨q0, q1⟩ := hK k (by omega)
        exact ⟨by rw [pk_un (by omega), pk_un (by omega)]; exact q0, by rw [pk_un (by omega), pk_un (by omega)]; exact q1⟩
    · show gsY_X11_begin_1_L3 NF vv (fu + 1) (nI j) V y W G = gsY_X11_begin_1_L3 NF vv fu (nI (j + 1)) V (upd2 y 24 (upd (upd (y 24) j (y 17 j)) (6 + j) (-1))) W G
      simp only [gsY_X11_begin_1_L3]
      rw [hn, if_neg (show ¬ nI n ≤ nI j from nI_ge hj (by omega)), nI_1, show (6 : Int32) + nI j = nI (6 + j) from nI_add 6 j, nI_clamp (show j < 2 ^ 31 by omega), nI_clamp (show 6 + j < 2 ^ 31 by omega)]
      all_goals first | rfl | (simp only [upd2_2]; done) | (simp only [upd2_2]; rfl)
  · intro fu s hs
    obtain ⟨y, rfl, hF, hO24, hK⟩ := hs
    refine ⟨y, hF, hO24, hK, ?_⟩
    show gsY_X11_begin_1_L3 NF vv (fu + 1) (nI n) V y W G = _
    simp only [gsY_X11_begin_1_L3]
    rw [hn, if_pos (show nI n ≤ nI n from nI_le (Nat.le_refl _) (by omega))]
    all_goals rfl
theorem yBeg7 {vv : Nat → Int32} {V : Nat → Int32} {F0 : Nat → Nat → Int32} {W : Int64} {G : Nat → Int64} {n : Nat} (hn : vv 25 = nI n) (hb : n ≤ 6) : ∃ F' : Nat → Nat → Int32, (∀ q, q ≠ 24 → F' q = F0 q) ∧ (∀ i, ¬ (12 ≤ i ∧ i < 12 + n) → ¬ (18 ≤ i ∧ i < 18 + n) → ¬ (24 ≤ i ∧ i < 24 + n) → ¬ (30 ≤ i ∧ i < 30 + n) → F' 24 i = F0 24 i) ∧ (∀ k, k < n → F' 24 (12 + k) = F0 19 k ∧ F' 24 (18 + k) = F0 20 k ∧ F' 24 (24 + k) = F0 21 k ∧ F' 24 (30 + k) = F0 22 k) ∧ gsY_X11_begin_1_L7 NF vv (4294967296 + NF) 0 V F0 W G = (V, F', W, G) := by
  refine lpQ (S := SY) (fun fu i s => gsY_X11_begin_1_L7 NF vv fu i s.1 s.2.1 s.2.2.1 s.2.2.2) (fun r => ∃ F' : Nat → Nat → Int32, (∀ q, q ≠ 24 → F' q = F0 q) ∧ (∀ i, ¬ (12 ≤ i ∧ i < 12 + n) → ¬ (18 ≤ i ∧ i < 18 + n) → ¬ (24 ≤ i ∧ i < 24 + n) → ¬ (30 ≤ i ∧ i < 30 + n) → F' 24 i = F0 24 i) ∧ (∀ k, k < n → F' 24 (12 + k) = F0 19 k ∧ F' 24 (18 + k) = F0 20 k ∧ F' 24 (24 + k) = F0 21 k ∧ F' 24 (30 + k) = F0 22 k) ∧ r = (V, F', W, G)) (fun j s => ∃ F' : Nat → Nat → Int32, s = (V, F', W, G) ∧ (∀ q, q ≠ 24 → F' q = F0 q) ∧ (∀ i, ¬ (12 ≤ i ∧ i < 12 + n) → ¬ (18 ≤ i ∧ i < 18 + n) → ¬ (24 ≤ i ∧ i < 24 + n) → ¬ (30 ≤ i ∧ i < 30 + n) → F' 24 i = F0 24 i) ∧ (∀ k, k < j → F' 24 (12 + k) = F0 19 k ∧ F' 24 (18 + k) = F0 20 k ∧ F' 24 (24 + k) = F0 21 k ∧ F' 24 (30 + k) = F0 22 k)) n ?_ ?_ n 0 (4294967296 + NF) (V, F0, W, G) (by omega) (by omega) ⟨F0, rfl, fun q _ => rfl, fun i _ _ _ _ => rfl, fun k hk => absurd hk (Nat.not_lt_zero _)⟩
  · intro fu j s hj hs
    obtain ⟨y, rfl, hF, hO24, hK⟩ := hs
    refine Or.inl ⟨(V, (upd2 y 24 (upd (upd (upd (upd (y 24) (12 + j) (y 19 j)) (18 + j) (y 20 j)) (24 + j) (y 21 j)) (30 + j) (y 22 j))), W, G), ⟨_, rfl, ?_, ?_, ?_⟩, ?_⟩
    · intro q h24
      exact (u2n h24).trans (hF q h24)
    · intro i z0 z1 z2 z3
      show (upd (upd (upd (upd (y 24) (12 + j) (y 19 j)) (18 + j) (y 20 j)) (24 + j) (y 21 j)) (30 + j) (y 22 j)) i = _
      rw [pk_un (by omega), pk_un (by omega), pk_un (by omega), pk_un (by omega)]
      exact hO24 i z0 z1 z2 z3
    · intro k hk
      show (upd (upd (upd (upd (y 24) (12 + j) (y 19 j)) (18 + j) (y 20 j)) (24 + j) (y 21 j)) (30 + j) (y 22 j)) (12 + k) = F0 19 k ∧ (upd (upd (upd (upd (y 24) (12 + j) (y 19 j)) (18 + j) (y 20 j)) (24 + j) (y 21 j)) (30 + j) (y 22 j)) (18 + k) = F0 20 k ∧ (upd (upd (upd (upd (y 24) (12 + j) (y 19 j)) (18 + j) (y 20 j)) (24 + j) (y 21 j)) (30 + j) (y 22 j)) (24 + k) = F0 21 k ∧ (upd (upd (upd (upd (y 24) (12 + j) (y 19 j)) (18 + j) (y 20 j)) (24 + j) (y 21 j)) (30 + j) (y 22 j)) (30 + k) = F0 22 k
      by_cases e : k = j
      · subst e
        exact ⟨by rw [pk_un (by omega), pk_un (by omega), pk_un (by omega), pk_us]; exact congrFun (hF 19 (by decide)) _, by rw [pk_un (by omega), pk_un (by omega), pk_us]; exact congrFun (hF 20 (by decide)) _, by rw [pk_un (by omega), pk_us]; exact congrFun (hF 21 (by decide)) _, by rw [pk_us]; exact congrFun (hF 22 (by decide)) _⟩
      · obtain ⟨q0, q1, q2, q3⟩ := hK k (by omega)
        exact ⟨by rw [pk_un (by omega), pk_un (by omega), pk_un (by omega), pk_un (by omega)]; exact q0, by rw [pk_un (by omega), pk_un (by omega), pk_un (by omega), pk_un (by omega)]; exact q1, by rw [pk_un (by omega), pk_un (by omega), pk_un (by omega), pk_un (by omega)]; exact q2, by rw [pk_un (by omega), pk_un (by omega), pk_un (by omega), pk_un (by omega)]; exact q3⟩
    · show gsY_X11_begin_1_L7 NF vv (fu + 1) (nI j) V y W G = gsY_X11_begin_1_L7 NF vv fu (nI (j + 1)) V (upd2 y 24 (upd (upd (upd (upd (y 24) (12 + j) (y 19 j)) (18 + j) (y 20 j)) (24 + j) (y 21 j)) (30 + j) (y 22 j))) W G
      simp only [gsY_X11_begin_1_L7]
      rw [hn, if_neg (show ¬ nI n ≤ nI j from nI_ge hj (by omega)), nI_1, show (12 : Int32) + nI j = nI (12 + j) from nI_add 12 j, show (18 : Int32) + nI j = nI (18 + j) from nI_add 18 j, show (24 : Int32) + nI j = nI (24 + j) from nI_add 24 j, show (30 : Int32) + nI j = nI (30 + j) from nI_add 30 j, nI_clamp (show j < 2 ^ 31 by omega), nI_clamp (show 12 + j < 2 ^ 31 by omega), nI_clamp (show 18 + j < 2 ^ 31 by omega), nI_clamp (show 24 + j < 2 ^ 31 by omega), nI_clamp (show 30 + j < 2 ^ 31 by omega)]
      all_goals first | rfl | (simp only [upd2_2]; done) | (simp only [upd2_2]; rfl)
  · intro fu s hs
    obtain ⟨y, rfl, hF, hO24, hK⟩ := hs
    refine ⟨y, hF, hO24, hK, ?_⟩
    show gsY_X11_begin_1_L7 NF vv (fu + 1) (nI n) V y W G = _
    simp only [gsY_X11_begin_1_L7]
    rw [hn, if_pos (show nI n ≤ nI n from nI_le (Nat.le_refl _) (by omega))]
    all_goals rfl
theorem yKeep1 {V : Nat → Int32} {F0 : Nat → Nat → Int32} {W : Int64} {G : Nat → Int64} : ∃ F' : Nat → Nat → Int32, (∀ q, q ≠ 23 → F' q = F0 q) ∧ (∀ i, ¬ i < 39 → F' 23 i = F0 23 i) ∧ (∀ k, k < 39 → F' 23 k = F0 24 k) ∧ gsY_X11_keepAir_1_L1 NF (4294967296 + NF) 0 V F0 W G = (V, F', W, G) := by
  refine lpQ (S := SY) (fun fu i s => gsY_X11_keepAir_1_L1 NF fu i s.1 s.2.1 s.2.2.1 s.2.2.2) (fun r => ∃ F' : Nat → Nat → Int32, (∀ q, q ≠ 23 → F' q = F0 q) ∧ (∀ i, ¬ i < 39 → F' 23 i = F0 23 i) ∧ (∀ k, k < 39 → F' 23 k = F0 24 k) ∧ r = (V, F', W, G)) (fun j s => ∃ F' : Nat → Nat → Int32, s = (V, F', W, G) ∧ (∀ q, q ≠ 23 → F' q = F0 q) ∧ (∀ i, ¬ i < 39 → F' 23 i = F0 23 i) ∧ (∀ k, k < j → F' 23 k = F0 24 k)) 39 ?_ ?_ 39 0 (4294967296 + NF) (V, F0, W, G) (by omega) (by omega) ⟨F0, rfl, fun q _ => rfl, fun i _ => rfl, fun k hk => absurd hk (Nat.not_lt_zero _)⟩
  · intro fu j s hj hs
    obtain ⟨y, rfl, hF, hO23, hK⟩ := hs
    refine Or.inl ⟨(V, (upd2 y 23 (upd (y 23) j (y 24 j))), W, G), ⟨_, rfl, ?_, ?_, ?_⟩, ?_⟩
    · intro q h23
      exact (u2n h23).trans (hF q h23)
    · intro i z0
      show (upd (y 23) j (y 24 j)) i = _
      rw [pk_un (by omega)]
      exact hO23 i z0
    · intro k hk
      show (upd (y 23) j (y 24 j)) k = F0 24 k
      by_cases e : k = j
      · subst e
        exact by rw [pk_us]; exact congrFun (hF 24 (by decide)) _
      · exact by rw [pk_un (by omega)]; exact hK k (by omega)
    · show gsY_X11_keepAir_1_L1 NF (fu + 1) (nI j) V y W G = gsY_X11_keepAir_1_L1 NF fu (nI (j + 1)) V (upd2 y 23 (upd (y 23) j (y 24 j))) W G
      simp only [gsY_X11_keepAir_1_L1]
      rw [if_neg (show ¬ (39 : Int32) ≤ nI j from lit_nle (b := 39) rfl hj (by decide)), nI_1, nI_clamp (show j < 2 ^ 31 by omega)]
      all_goals first | rfl | (simp only [upd2_2]; done) | (simp only [upd2_2]; rfl)
  · intro fu s hs
    obtain ⟨y, rfl, hF, hO23, hK⟩ := hs
    refine ⟨y, hF, hO23, hK, ?_⟩
    show gsY_X11_keepAir_1_L1 NF (fu + 1) (nI 39) V y W G = _
    simp only [gsY_X11_keepAir_1_L1]
    rw [if_pos (show (39 : Int32) ≤ nI 39 from lit_le (b := 39) rfl (Nat.le_refl _) (by decide))]
    all_goals rfl
theorem xFill27 {V : Nat → Int32} {F0 : Nat → Nat → Int32} {pp : Int32} : ∃ F' : Nat → Nat → Int32, (∀ q, q ≠ 27 → F' q = F0 q) ∧ (∀ i, ¬ i < 21 → F' 27 i = F0 27 i) ∧ (∀ k, k < 21 → F' 27 k = pp) ∧ gsX_J7_fill_53178_1_L1 NF pp (4294967296 + NF) 0 V F0 = (V, F') := by
  refine lpQ (S := SX) (fun fu i s => gsX_J7_fill_53178_1_L1 NF pp fu i s.1 s.2) (fun r => ∃ F' : Nat → Nat → Int32, (∀ q, q ≠ 27 → F' q = F0 q) ∧ (∀ i, ¬ i < 21 → F' 27 i = F0 27 i) ∧ (∀ k, k < 21 → F' 27 k = pp) ∧ r = (V, F')) (fun j s => ∃ F' : Nat → Nat → Int32, s = (V, F') ∧ (∀ q, q ≠ 27 → F' q = F0 q) ∧ (∀ i, ¬ i < 21 → F' 27 i = F0 27 i) ∧ (∀ k, k < j → F' 27 k = pp)) 21 ?_ ?_ 21 0 (4294967296 + NF) (V, F0) (by omega) (by omega) ⟨F0, rfl, fun q _ => rfl, fun i _ => rfl, fun k hk => absurd hk (Nat.not_lt_zero _)⟩
  · intro fu j s hj hs
    obtain ⟨y, rfl, hF, hO27, hK⟩ := hs
    refine Or.inl ⟨(V, (upd2 y 27 (upd (y 27) j pp))), ⟨_, rfl, ?_, ?_, ?_⟩, ?_⟩
    · intro q h27
      exact (u2n h27).trans (hF q h27)
    · intro i z0
      show (upd (y 27) j pp) i = _
      rw [pk_un (by omega)]
      exact hO27 i z0
    · intro k hk
      show (upd (y 27) j pp) k = pp
      by_cases e : k = j
      · subst e
        exact by rw [pk_us]
      · exact by rw [pk_un (by omega)]; exact hK k (by omega)
    · show gsX_J7_fill_53178_1_L1 NF pp (fu + 1) (nI j) V y = gsX_J7_fill_53178_1_L1 NF pp fu (nI (j + 1)) V (upd2 y 27 (upd (y 27) j pp))
      simp only [gsX_J7_fill_53178_1_L1]
      rw [if_neg (show ¬ (21 : Int32) ≤ nI j from lit_nle (b := 21) rfl hj (by decide)), nI_1, nI_clamp (show j < 2 ^ 31 by omega)]
      all_goals first | rfl | (simp only [upd2_2]; done) | (simp only [upd2_2]; rfl)
  · intro fu s hs
    obtain ⟨y, rfl, hF, hO27, hK⟩ := hs
    refine ⟨y, hF, hO27, hK, ?_⟩
    show gsX_J7_fill_53178_1_L1 NF pp (fu + 1) (nI 21) V y = _
    simp only [gsX_J7_fill_53178_1_L1]
    rw [if_pos (show (21 : Int32) ≤ nI 21 from lit_le (b := 21) rfl (Nat.le_refl _) (by decide))]
    all_goals rfl
theorem xMus1 {V : Nat → Int32} {F0 : Nat → Nat → Int32} : ∃ F' : Nat → Nat → Int32, (∀ q, q ≠ 15 → F' q = F0 q) ∧ (∀ i, ¬ i < 6 → ¬ (6 ≤ i ∧ i < 6 + 6) → F' 15 i = F0 15 i) ∧ (∀ k, k < 6 → F' 15 k = gsX_X7_manPart_1 NF 1 (nI k) V F0 ∧ F' 15 (6 + k) = -1) ∧ gsX_X1_muster_1_L1 NF (4294967296 + NF) 0 V F0 = gsX_X1_muster_1_L3 NF (4294967296 + NF) 0 V F' := by
  refine lpQ (S := SX) (fun fu i s => gsX_X1_muster_1_L1 NF fu i s.1 s.2) (fun r => ∃ F' : Nat → Nat → Int32, (∀ q, q ≠ 15 → F' q = F0 q) ∧ (∀ i, ¬ i < 6 → ¬ (6 ≤ i ∧ i < 6 + 6) → F' 15 i = F0 15 i) ∧ (∀ k, k < 6 → F' 15 k = gsX_X7_manPart_1 NF 1 (nI k) V F0 ∧ F' 15 (6 + k) = -1) ∧ r = gsX_X1_muster_1_L3 NF (4294967296 + NF) 0 V F') (fun j s => ∃ F' : Nat → Nat → Int32, s = (V, F') ∧ (∀ q, q ≠ 15 → F' q = F0 q) ∧ (∀ i, ¬ i < 6 → ¬ (6 ≤ i ∧ i < 6 + 6) → F' 15 i = F0 15 i) ∧ (∀ k, k < j → F' 15 k = gsX_X7_manPart_1 NF 1 (nI k) V F0 ∧ F' 15 (6 + k) = -1)) 6 ?_ ?_ 6 0 (4294967296 + NF) (V, F0) (by omega) (by omega) ⟨F0, rfl, fun q _ => rfl, fun i _ _ => rfl, fun k hk => absurd hk (Nat.not_lt_zero _)⟩
  · intro fu j s hj hs
    obtain ⟨y, rfl, hF, hO15, hK⟩ := hs
    refine Or.inl ⟨(V, (upd2 y 15 (upd (upd (y 15) j (gsX_X7_manPart_1 NF 1 (nI j) V y)) (6 + j) (-1)))), ⟨_, rfl, ?_, ?_, ?_⟩, ?_⟩
    · intro q h15
      exact (u2n h15).trans (hF q h15)
    · intro i z0 z1
      show (upd (upd (y 15) j (gsX_X7_manPart_1 NF 1 (nI j) V y)) (6 + j) (-1)) i = _
      rw [pk_un (by omega), pk_un (by omega)]
      exact hO15 i z0 z1
    · intro k hk
      show (upd (upd (y 15) j (gsX_X7_manPart_1 NF 1 (nI j) V y)) (6 + j) (-1)) k = gsX_X7_manPart_1 NF 1 (nI k) V F0 ∧ (upd (upd (y 15) j (gsX_X7_manPart_1 NF 1 (nI j) V y)) (6 + j) (-1)) (6 + k) = -1
      by_cases e : k = j
      · subst e
        exact ⟨by rw [pk_un (by omega), pk_us]; exact (by simp only [gsX_X7_manPart_1, gsX_X7_hasMan_1, hF 9 (by decide)]), by rw [pk_us]⟩
      · obtain ⟨q0, q1⟩ := hK k (by omega)
        exact ⟨by rw [pk_un (by omega), pk_un (by omega)]; exact q0, by rw [pk_un (by omega), pk_un (by omega)]; exact q1⟩
    · show gsX_X1_muster_1_L1 NF (fu + 1) (nI j) V y = gsX_X1_muster_1_L1 NF fu (nI (j + 1)) V (upd2 y 15 (upd (upd (y 15) j (gsX_X7_manPart_1 NF 1 (nI j) V y)) (6 + j) (-1)))
      simp only [gsX_X1_muster_1_L1]
      rw [if_neg (show ¬ (6 : Int32) ≤ nI j from lit_nle (b := 6) rfl hj (by decide)), nI_1, show (6 : Int32) + nI j = nI (6 + j) from nI_add 6 j, nI_clamp (show j < 2 ^ 31 by omega), nI_clamp (show 6 + j < 2 ^ 31 by omega)]
      all_goals first | rfl | (simp only [upd2_2]; done) | (simp only [upd2_2]; rfl)
  · intro fu s hs
    obtain ⟨y, rfl, hF, hO15, hK⟩ := hs
    refine ⟨y, hF, hO15, hK, ?_⟩
    show gsX_X1_muster_1_L1 NF (fu + 1) (nI 6) V y = _
    simp only [gsX_X1_muster_1_L1]
    rw [if_pos (show (6 : Int32) ≤ nI 6 from lit_le (b := 6) rfl (Nat.le_refl _) (by decide))]
    all_goals rfl
theorem xCP {V : Nat → Int32} {F0 y : Nat → Nat → Int32} (h : y 10 = F0 10) (p q : Int32) : gsX_X7_coatPart_1 NF p q V y = gsX_X7_coatPart_1 NF p q V F0 := by
  simp only [gsX_X7_coatPart_1, gsX_X7_hasCoat_1, h]
theorem xMus7 {V : Nat → Int32} {F0 : Nat → Nat → Int32} {c : Nat} (hc : c < 6) {k3 : Int32 → (Nat → Int32) → (Nat → Nat → Int32) → ((Nat → Int32) × (Nat → Nat → Int32))} : ∃ F' : Nat → Nat → Int32, (∀ q, q ≠ 15 → F' q = F0 q) ∧ (∀ i, (∀ p, p < 5 → i ≠ 12 + p * 6 + c) → F' 15 i = F0 15 i) ∧ (∀ p, p < 5 → F' 15 (12 + p * 6 + c) = gsX_X7_coatPart_1 NF (nI p) (nI c) V F0) ∧ gsX_X1_muster_1_L7 NF (nI c) k3 (4294967296 + NF) 0 V F0 = k3 (nI (c + 1)) V F' := by
  refine lpQ (S := SX) (fun fu i s => gsX_X1_muster_1_L7 NF (nI c) k3 fu i s.1 s.2) (fun r => ∃ F' : Nat → Nat → Int32, (∀ q, q ≠ 15 → F' q = F0 q) ∧ (∀ i, (∀ p, p < 5 → i ≠ 12 + p * 6 + c) → F' 15 i = F0 15 i) ∧ (∀ p, p < 5 → F' 15 (12 + p * 6 + c) = gsX_X7_coatPart_1 NF (nI p) (nI c) V F0) ∧ r = k3 (nI (c + 1)) V F') (fun j s => ∃ F' : Nat → Nat → Int32, s = (V, F') ∧ (∀ q, q ≠ 15 → F' q = F0 q) ∧ (∀ i, (∀ p, p < 5 → i ≠ 12 + p * 6 + c) → F' 15 i = F0 15 i) ∧ (∀ p, p < j → F' 15 (12 + p * 6 + c) = gsX_X7_coatPart_1 NF (nI p) (nI c) V F0)) 5 ?_ ?_ 5 0 (4294967296 + NF) (V, F0) (by omega) (by omega) ⟨F0, rfl, fun q _ => rfl, fun i _ => rfl, fun k hk => absurd hk (Nat.not_lt_zero _)⟩
  · intro fu j s hj hs
    obtain ⟨y, rfl, hF, hO, hK⟩ := hs
    refine Or.inl ⟨(V, upd2 y 15 (upd (y 15) (12 + j * 6 + c) (gsX_X7_coatPart_1 NF (nI j) (nI c) V y))), ⟨_, rfl, ?_, ?_, ?_⟩, ?_⟩
    · intro q hq
      exact (u2n hq).trans (hF q hq)
    · intro i hi
      show (upd (y 15) (12 + j * 6 + c) (gsX_X7_coatPart_1 NF (nI j) (nI c) V y)) i = _
      rw [pk_un (hi j hj)]
      exact hO i hi
    · intro p hp
      show (upd (y 15) (12 + j * 6 + c) (gsX_X7_coatPart_1 NF (nI j) (nI c) V y)) (12 + p * 6 + c) = _
      by_cases e : p = j
      · rw [e, pk_us]
        exact xCP (hF 10 (by decide)) _ _
      · rw [pk_un (by omega)]
        exact hK p (by omega)
    · show gsX_X1_muster_1_L7 NF (nI c) k3 (fu + 1) (nI j) V y = gsX_X1_muster_1_L7 NF (nI c) k3 fu (nI (j + 1)) V _
      simp only [gsX_X1_muster_1_L7]
      rw [if_neg (show ¬ (5 : Int32) ≤ nI j from lit_nle (b := 5) rfl hj (by decide)), nI_1, show nI j * 6 = nI (j * 6) from nI_mulI j 6, show (12 : Int32) + nI (j * 6) = nI (12 + j * 6) from nI_add 12 (j * 6), nI_add, nI_clamp (show 12 + j * 6 + c < 2 ^ 31 by omega)]
      all_goals rfl
  · intro fu s hs
    obtain ⟨y, rfl, hF, hO, hK⟩ := hs
    refine ⟨y, hF, hO, hK, ?_⟩
    show gsX_X1_muster_1_L7 NF (nI c) k3 (fu + 1) (nI 5) V y = _
    simp only [gsX_X1_muster_1_L7]
    rw [if_pos (show (5 : Int32) ≤ nI 5 from lit_le (b := 5) rfl (Nat.le_refl _) (by decide)), nI_1]
theorem xMus3 {V : Nat → Int32} {F0 : Nat → Nat → Int32} : ∃ F' : Nat → Nat → Int32, (∀ q, q ≠ 15 → F' q = F0 q) ∧ (∀ i, i < 12 → F' 15 i = F0 15 i) ∧ (∀ c, c < 6 → ∀ p, p < 5 → F' 15 (12 + p * 6 + c) = gsX_X7_coatPart_1 NF (nI p) (nI c) V F0) ∧ F' 15 42 = 0 ∧ F' 15 43 = V 37 ∧ gsX_X1_muster_1_L3 NF (4294967296 + NF) 0 V F0 = (V, F') := by
  refine lpQ (S := SX) (fun fu i s => gsX_X1_muster_1_L3 NF fu i s.1 s.2) (fun r => ∃ F' : Nat → Nat → Int32, (∀ q, q ≠ 15 → F' q = F0 q) ∧ (∀ i, i < 12 → F' 15 i = F0 15 i) ∧ (∀ c, c < 6 → ∀ p, p < 5 → F' 15 (12 + p * 6 + c) = gsX_X7_coatPart_1 NF (nI p) (nI c) V F0) ∧ F' 15 42 = 0 ∧ F' 15 43 = V 37 ∧ r = (V, F')) (fun j s => ∃ F' : Nat → Nat → Int32, s = (V, F') ∧ (∀ q, q ≠ 15 → F' q = F0 q) ∧ (∀ i, i < 12 → F' 15 i = F0 15 i) ∧ (∀ c, c < j → ∀ p, p < 5 → F' 15 (12 + p * 6 + c) = gsX_X7_coatPart_1 NF (nI p) (nI c) V F0)) 6 ?_ ?_ 6 0 (4294967296 + NF) (V, F0) (by omega) (by omega) ⟨F0, rfl, fun q _ => rfl, fun i _ => rfl, fun k hk => absurd hk (Nat.not_lt_zero _)⟩
  · intro fu j s hj hs
    obtain ⟨y, rfl, hF, hO, hK⟩ := hs
    obtain ⟨F', f1, f2, f3, f4⟩ := xMus7 (NF := NF) (V := V) (F0 := y) (c := j) hj (k3 := fun z0 z1 z2 => gsX_X1_muster_1_L3 NF fu z0 z1 z2)
    refine Or.inl ⟨(V, F'), ⟨F', rfl, fun q hq => (f1 q hq).trans (hF q hq), fun i hi => ?_, fun c hc p hp => ?_⟩, ?_⟩
    · rw [f2 i (fun p hp => by omega)]
      exact hO i hi
    · by_cases e : c = j
      · rw [e, f3 p hp]
        exact xCP (hF 10 (by decide)) _ _
      · rw [f2 (12 + p * 6 + c) (fun p' hp' => by omega)]
        exact hK c (by omega) p hp
    · show gsX_X1_muster_1_L3 NF (fu + 1) (nI j) V y = gsX_X1_muster_1_L3 NF fu (nI (j + 1)) V F'
      simp only [gsX_X1_muster_1_L3]
      rw [if_neg (show ¬ (6 : Int32) ≤ nI j from lit_nle (b := 6) rfl hj (by decide)), f4]
  · intro fu s hs
    obtain ⟨y, rfl, hF, hO, hK⟩ := hs
    refine ⟨upd2 (upd2 y 15 (upd (y 15) 42 0)) 15 (upd (upd (y 15) 42 0) 43 (V 37)), fun q hq => (u2n hq).trans ((u2n hq).trans (hF q hq)), fun i hi => ?_, fun c hc p hp => ?_, ?_, ?_, ?_⟩
    · show upd (upd (y 15) 42 0) 43 (V 37) i = _
      rw [pk_un (by omega), pk_un (by omega)]
      exact hO i hi
    · show upd (upd (y 15) 42 0) 43 (V 37) (12 + p * 6 + c) = _
      rw [pk_un (by omega), pk_un (by omega)]
      exact hK c hc p hp
    · show upd (upd (y 15) 42 0) 43 (V 37) 42 = 0
      rw [pk_un (by decide), pk_us]
    · show upd (upd (y 15) 42 0) 43 (V 37) 43 = V 37
      rw [pk_us]
    · show gsX_X1_muster_1_L3 NF (fu + 1) (nI 6) V y = _
      simp only [gsX_X1_muster_1_L3]
      rw [if_pos (show (6 : Int32) ≤ nI 6 from lit_le (b := 6) rfl (Nat.le_refl _) (by decide))]
      all_goals rfl
theorem xManP {V : Nat → Int32} {F : Nat → Nat → Int32} {a p m : Nat} (h : V 31 = nI a) (ha : a ≤ 6) (hm : m < a) (hp : p < 3) : gsX_X7_manPart_1 NF (nI p) (nI m) V F = F 9 (p * 6 + m) := by
  have e1 : gsX_X7_hasMan_1 NF (nI m) V F = 1 := by
    simp only [gsX_X7_hasMan_1, h]
    rw [if_neg (show ¬ nI m < (0 : Int32) from nI_pos (by omega)), if_neg (show ¬ nI a ≤ nI m from nI_ge hm (by omega))]
  simp only [gsX_X7_manPart_1, e1]
  rw [if_pos trivial, if_neg (show ¬ nI p < (0 : Int32) from nI_pos (by omega)), if_neg (show ¬ (3 : Int32) ≤ nI p from lit_nle (b := 3) rfl hp (by decide)), show nI p * 6 = nI (p * 6) from nI_mulI p 6, nI_add, nI_clamp (show p * 6 + m < 2 ^ 31 by omega)]
theorem xCoatP {V : Nat → Int32} {F : Nat → Nat → Int32} {b p c : Nat} (h : V 32 = nI b) (hb : b ≤ 6) (hc : c < b) (hp : p < 4) : gsX_X7_coatPart_1 NF (nI p) (nI c) V F = F 10 (p * 6 + c) := by
  have e1 : gsX_X7_hasCoat_1 NF (nI c) V F = 1 := by
    simp only [gsX_X7_hasCoat_1, h]
    rw [if_neg (show ¬ nI c < (0 : Int32) from nI_pos (by omega)), if_neg (show ¬ nI b ≤ nI c from nI_ge hc (by omega))]
  simp only [gsX_X7_coatPart_1, e1]
  rw [if_pos trivial, if_neg (show ¬ nI p < (0 : Int32) from nI_pos (by omega)), if_neg (show ¬ (4 : Int32) ≤ nI p from lit_nle (b := 4) rfl hp (by decide)), show nI p * 6 = nI (p * 6) from nI_mulI p 6, nI_add, nI_clamp (show p * 6 + c < 2 ^ 31 by omega)]
theorem xCoatP4 {V : Nat → Int32} {F : Nat → Nat → Int32} {q : Int32} : gsX_X7_coatPart_1 NF (nI 4) q V F = 0 := by
  simp only [gsX_X7_coatPart_1]
  rw [if_neg (show ¬ nI 4 < (0 : Int32) from nI_pos (by omega)), if_pos (show (4 : Int32) ≤ nI 4 from lit_le (b := 4) rfl (Nat.le_refl _) (by decide))]
  exact ite_self _
theorem xMuster {V : Nat → Int32} {F0 : Nat → Nat → Int32} {a b : Nat} (ha : V 31 = nI a) (hb : V 32 = nI b) (ha6 : a ≤ 6) (hb6 : b ≤ 6) : ∃ F' : Nat → Nat → Int32, (∀ q, q ≠ 15 → F' q = F0 q) ∧ (∀ k, k < a → F' 15 k = F0 9 (6 + k) ∧ F' 15 (6 + k) = -1) ∧ (∀ k, k < b → F' 15 (12 + k) = F0 10 k ∧ F' 15 (18 + k) = F0 10 (6 + k) ∧ F' 15 (24 + k) = F0 10 (12 + k) ∧ F' 15 (30 + k) = F0 10 (18 + k) ∧ F' 15 (36 + k) = 0) ∧ F' 15 42 = 0 ∧ F' 15 43 = V 37 ∧ gsX_X1_muster_1 NF V F0 = (V, F') := by
  obtain ⟨A, a1, a2, a3, a4⟩ := xMus1 (NF := NF) (V := V) (F0 := F0)
  obtain ⟨B, b1, b2, b3, b4, b5, b6⟩ := xMus3 (NF := NF) (V := V) (F0 := A)
  refine ⟨B, fun q hq => (b1 q hq).trans (a1 q hq), fun k hk => ⟨?_, ?_⟩, fun k hk => ?_, b4, b5, ?_⟩
  · rw [b2 k (by omega), (a3 k (by omega)).1]
    exact xManP (p := 1) ha ha6 hk (by decide)
  · rw [b2 (6 + k) (by omega)]
    exact (a3 k (by omega)).2
  · have q0 : B 15 (12 + k) = A 10 (0 + k) := (b3 k (by omega) 0 (by decide)).trans (xCoatP (p := 0) hb hb6 hk (by decide))
    have q1 : B 15 (18 + k) = A 10 (6 + k) := (b3 k (by omega) 1 (by decide)).trans (xCoatP (p := 1) hb hb6 hk (by decide))
    have q2 : B 15 (24 + k) = A 10 (12 + k) := (b3 k (by omega) 2 (by decide)).trans (xCoatP (p := 2) hb hb6 hk (by decide))
    have q3 : B 15 (30 + k) = A 10 (18 + k) := (b3 k (by omega) 3 (by decide)).trans (xCoatP (p := 3) hb hb6 hk (by decide))
    have q4 : B 15 (36 + k) = 0 := (b3 k (by omega) 4 (by decide)).trans xCoatP4
    rw [Nat.zero_add] at q0
    rw [a1 10 (by decide)] at q0 q1 q2 q3
    exact ⟨q0, q1, q2, q3, q4⟩
  · unfold gsX_X1_muster_1
    rw [a4, b6]
theorem yBegin {V : Nat → Int32} {F0 : Nat → Nat → Int32} {W : Int64} {G : Nat → Int64} {a b : Nat} (ha : V 24 = nI a) (hb : V 25 = nI b) (ha6 : a ≤ 6) (hb6 : b ≤ 6) : ∃ F' : Nat → Nat → Int32, (∀ q, q ≠ 24 → F' q = F0 q) ∧ (∀ k, k < a → F' 24 k = F0 17 k ∧ F' 24 (6 + k) = -1) ∧ (∀ k, k < b → F' 24 (12 + k) = F0 19 k ∧ F' 24 (18 + k) = F0 20 k ∧ F' 24 (24 + k) = F0 21 k ∧ F' 24 (30 + k) = F0 22 k) ∧ F' 24 36 = 0 ∧ F' 24 37 = 0 ∧ gsY_X11_begin_1 NF V F0 W G = (V, F', W, G) := by
  obtain ⟨A, a1, a2, a3, a4⟩ := yBeg1 (NF := NF) (vv := V) (V := V) (F0 := F0) (W := W) (G := G)
  obtain ⟨B, b1, b2, b3, b4⟩ := yBeg3 (NF := NF) (vv := V) (V := V) (F0 := A) (W := W) (G := G) ha ha6
  obtain ⟨C, c1, c2, c3, c4⟩ := yBeg7 (NF := NF) (vv := V) (V := V) (F0 := B) (W := W) (G := G) hb hb6
  have z : ∀ k, k < 39 → A 24 k = 0 := a3
  refine ⟨C, fun q hq => (c1 q hq).trans ((b1 q hq).trans (a1 q hq)), fun k hk => ⟨?_, ?_⟩, fun k hk => ?_, ?_, ?_, ?_⟩
  · rw [c2 k (by omega) (by omega) (by omega) (by omega), (b3 k hk).1, a1 17 (by decide)]
  · rw [c2 (6 + k) (by omega) (by omega) (by omega) (by omega)]
    exact (b3 k hk).2
  · obtain ⟨q1, q2, q3, q4⟩ := c3 k hk
    rw [q1, q2, q3, q4, b1 19 (by decide), b1 20 (by decide), b1 21 (by decide), b1 22 (by decide), a1 19 (by decide), a1 20 (by decide), a1 21 (by decide), a1 22 (by decide)]
    exact ⟨rfl, rfl, rfl, rfl⟩
  · rw [c2 36 (by omega) (by omega) (by omega) (by omega), b2 36 (by omega) (by omega)]; exact z 36 (by decide)
  · rw [c2 37 (by omega) (by omega) (by omega) (by omega), b2 37 (by omega) (by omega)]; exact z 37 (by decide)
  · unfold gsY_X11_begin_1
    rw [a4, b4, c4]
theorem yKeepAir {V : Nat → Int32} {F0 : Nat → Nat → Int32} {W : Int64} {G : Nat → Int64} : ∃ F' : Nat → Nat → Int32, (∀ q, q ≠ 23 → F' q = F0 q) ∧ (∀ k, k < 39 → F' 23 k = F0 24 k) ∧ gsY_X11_keepAir_1 NF V F0 W G = (V, F', W, G) := by
  obtain ⟨A, a1, a2, a3, a4⟩ := yKeep1 (NF := NF) (V := V) (F0 := F0) (W := W) (G := G)
  exact ⟨A, a1, a3, a4⟩
end
end
section
section
variable {NF : Nat}
theorem cpy_in {f g : Nat → Int32} {n k : Nat} (hk : k < n) : va_cpy f g 0 0 n k = f k := by
  unfold va_cpy
  rw [if_pos ⟨Nat.zero_le _, by omega⟩, Nat.zero_add, Nat.sub_zero]
theorem xReg {v v' : Nat → Int32} {f f' : Nat → Nat → Int32} {a b : Nat} (e : gsX_X6_read_1 NF v f = (1, v', f')) (ha : v' 9 = nI a) (hb : v' 10 = nI b) (ha6 : a ≤ 6) (hb6 : b ≤ 6) : ∃ (U : Nat → Int32) (F : Nat → Nat → Int32), gsX_X10_regiment_1 NF v f = (v' 9, U, F) ∧ (U 0 = v' 0 ∧ U 1 = 0 ∧ U 7 = v' 7 ∧ U 8 = v' 8 ∧ U 18 = v' 16 ∧ U 19 = v' 17 ∧ U 20 = 0 ∧ U 21 = 0 ∧ U 22 = 0 ∧ U 23 = 0 ∧ U 31 = v' 9 ∧ U 32 = v' 10 ∧ U 33 = v' 11 ∧ U 34 = v' 12 ∧ U 35 = v' 13 ∧ U 36 = v' 14 ∧ U 41 = 0) ∧ (∀ k, k < 18 → F 9 k = f' 1 k) ∧ (∀ k, k < 24 → F 10 k = f' 2 k) ∧ (∀ k, k < 300 → F 11 k = f' 3 k ∧ F 12 k = f' 4 k) ∧ (∀ k, k < a → F 15 k = f' 1 (6 + k) ∧ F 15 (6 + k) = -1) ∧ (∀ k, k < b → F 15 (12 + k) = f' 2 k ∧ F 15 (18 + k) = f' 2 (6 + k) ∧ F 15 (24 + k) = f' 2 (12 + k) ∧ F 15 (30 + k) = f' 2 (18 + k) ∧ F 15 (36 + k) = 0) ∧ F 15 42 = 0 ∧ F 15 43 = v' 15 ∧ (∀ k, k < 44 → F 17 k = F 15 k) ∧ (∀ k, k < 21 → F 27 k = -1) := by
  generalize hV : upd (upd (upd (upd (upd (upd (upd (upd (upd (upd v' 1 0) 18 (v' 16)) 19 (v' 17)) 31 (v' 9)) 32 (v' 10)) 33 (v' 11)) 34 (v' 12)) 35 (v' 13)) 36 (v' 14)) 37 (v' 15) = V
  generalize hF : upd2 (upd2 (upd2 (upd2 f' 9 (va_cpy (f' 1) (f' 9) 0 0 18)) 10 (va_cpy (f' 2) (f' 10) 0 0 24)) 11 (va_cpy (f' 3) (f' 11) 0 0 300)) 12 (va_cpy (f' 4) (f' 12) 0 0 300) = F1
  have eC : gsX_X7_copy_1 NF (upd v' 1 0) f' = (V, F1) := by
    rw [← hV, ← hF]
    first | rfl | (simp only [gsX_X7_copy_1, gsX_X4_copy_1, show (0 : Int32).toNatClampNeg = 0 from by decide, show (18 : Int32).toNatClampNeg = 18 from by decide, show (24 : Int32).toNatClampNeg = 24 from by decide, show (300 : Int32).toNatClampNeg = 300 from by decide]; rfl)
  have V31 : V 31 = nI a := by rw [← hV]; exact ha
  have V32 : V 32 = nI b := by rw [← hV]; exact hb
  obtain ⟨M, m1, m2, m3, m4, m5, m6⟩ := xMuster (NF := NF) (F0 := F1) V31 V32 ha6 hb6
  generalize hS : upd2 M 17 (va_cpy (M 15) (M 17) 0 0 44) = S
  have eS : ∀ W : Nat → Int32, gsX_X1_saveTo_1 NF 0 W M = (W, S) := fun W => by
    rw [← hS]
    rfl
  have eA : gsX_X5_forgetAll_1 NF V M = (upd (upd (upd (upd V 20 0) 21 0) 22 0) 23 0, S) := by
    simp only [gsX_X5_forgetAll_1, gsX_X5_forgetActs_1, eS]
  obtain ⟨Z, z1, z2, z3, z4⟩ := xFill27 (NF := NF) (V := upd (upd (upd (upd (upd (upd V 20 0) 21 0) 22 0) 23 0) 38 0) 41 0) (F0 := S) (pp := -1)
  have z4 : gsX_J7_fill_53178_1 NF (-1) (upd (upd (upd (upd (upd (upd V 20 0) 21 0) 22 0) 23 0) 38 0) 41 0) S = _ := z4
  refine ⟨upd (upd (upd (upd (upd (upd V 20 0) 21 0) 22 0) 23 0) 38 0) 41 0, Z, ?_, ?_, fun k hk => ?_, fun k hk => ?_, fun k hk => ?_, fun k hk => ?_, fun k hk => ?_, ?_, ?_, fun k hk => ?_, z3⟩
  · simp only [gsX_X10_regiment_1, e, ite11, if_true, eC, m6, eA, gsX_X0_clear_1, gsX_X8_clear_1, z4]
    rw [V31, ha]
  · rw [← hV]
    exact ⟨rfl, rfl, rfl, rfl, rfl, rfl, rfl, rfl, rfl, rfl, rfl, rfl, rfl, rfl, rfl, rfl, rfl⟩
  · rw [z1 9 (by decide), ← hS, show upd2 M 17 (va_cpy (M 15) (M 17) 0 0 44) 9 = M 9 from rfl, m1 9 (by decide), ← hF]
    exact cpy_in hk
  · rw [z1 10 (by decide), ← hS, show upd2 M 17 (va_cpy (M 15) (M 17) 0 0 44) 10 = M 10 from rfl, m1 10 (by decide), ← hF]
    exact cpy_in hk
  · rw [z1 11 (by decide), z1 12 (by decide), ← hS, show upd2 M 17 (va_cpy (M 15) (M 17) 0 0 44) 11 = M 11 from rfl, show upd2 M 17 (va_cpy (M 15) (M 17) 0 0 44) 12 = M 12 from rfl, m1 11 (by decide), m1 12 (by decide), ← hF]
    exact ⟨cpy_in hk, cpy_in hk⟩
  · rw [z1 15 (by decide), ← hS, show upd2 M 17 (va_cpy (M 15) (M 17) 0 0 44) 15 = M 15 from rfl, (m2 k hk).1, (m2 k hk).2, ← hF]
    exact ⟨cpy_in (show 6 + k < 18 by omega), rfl⟩
  · obtain ⟨q1, q2, q3, q4, q5⟩ := m3 k hk
    rw [z1 15 (by decide), ← hS, show upd2 M 17 (va_cpy (M 15) (M 17) 0 0 44) 15 = M 15 from rfl, q1, q2, q3, q4, q5, ← hF]
    exact ⟨cpy_in (show k < 24 by omega), cpy_in (show 6 + k < 24 by omega), cpy_in (show 12 + k < 24 by omega), cpy_in (show 18 + k < 24 by omega), rfl⟩
  · rw [z1 15 (by decide), ← hS]
    exact m4
  · rw [z1 15 (by decide), ← hS, show upd2 M 17 (va_cpy (M 15) (M 17) 0 0 44) 15 = M 15 from rfl, m5, ← hV]
    rfl
  · rw [z1 17 (by decide), z1 15 (by decide), ← hS]
    exact cpy_in hk
theorem xRegF {v v' : Nat → Int32} {f f' : Nat → Nat → Int32} (e : gsX_X6_read_1 NF v f = (0, v', f')) : gsX_X10_regiment_1 NF v f = (-1, upd v' 1 0, f') := by
  simp only [gsX_X10_regiment_1, e, ite01]
theorem yReg {v v2 : Nat → Int32} {f f3 : Nat → Nat → Int32} {w w4 : Int64} {g g5 : Nat → Int64} {a b : Nat} (e : gsY_X11_readAll_1 NF v f w g = (v2, f3, w4, g5)) (h1 : v2 1 = 0) (ha : v2 17 = nI a) (hb : v2 18 = nI b) (ha6 : a ≤ 6) (hb6 : b ≤ 6) {n : Nat} (hn : n ≤ 300) (h15 : (v2 15 = 0 ∧ n = 0) ∨ (v2 15 = 1 ∧ v2 8 = nI n)) : ∃ (U : Nat → Int32) (F : Nat → Nat → Int32), gsY_X11_regiment_1 NF v f w g = (v2 17, U, F, w4, g5) ∧ (U 0 = v2 0 ∧ U 1 = v2 1 ∧ U 2 = v2 2 ∧ U 9 = nI n ∧ U 12 = v2 11 ∧ U 16 = v2 15 ∧ U 24 = v2 17 ∧ U 25 = v2 18 ∧ U 26 = v2 19 ∧ U 27 = v2 20 ∧ U 28 = v2 21 ∧ U 29 = v2 22 ∧ U 35 = 0 ∧ U 36 = 0 ∧ U 38 = 0 ∧ U 39 = v2 39) ∧ (∀ k, k < n → F 4 k = f3 2 k ∧ F 5 k = f3 3 k) ∧ (∀ k, k < a → F 16 k = f3 9 k ∧ F 17 k = f3 10 k ∧ F 18 k = f3 11 k) ∧ (∀ k, k < b → F 19 k = f3 12 k ∧ F 20 k = f3 13 k ∧ F 21 k = f3 14 k ∧ F 22 k = f3 15 k) ∧ (∀ k, k < a → F 23 k = f3 10 k ∧ F 23 (6 + k) = -1) ∧ (∀ k, k < b → F 23 (12 + k) = f3 12 k ∧ F 23 (18 + k) = f3 13 k ∧ F 23 (24 + k) = f3 14 k ∧ F 23 (30 + k) = f3 15 k) ∧ F 23 36 = 0 ∧ F 23 37 = 0 ∧ F 23 38 = v2 23 ∧ (∀ k, k < 3 → F 36 k = vp_nar .boolean 0) ∧ F 0 = f3 0 := by
  generalize hV : upd (upd (upd (upd (upd (upd (upd (upd (upd v2 24 (v2 17)) 25 (v2 18)) 26 (v2 19)) 27 (v2 20)) 28 (v2 21)) 29 (v2 22)) 12 (v2 11)) 16 (v2 15)) 9 (nI n) = V
  have V24 : V 24 = nI a := by rw [← hV]; exact ha
  have V25 : V 25 = nI b := by rw [← hV]; exact hb
  have h10 : v2 1 ≤ 0 := by rw [h1]; decide
  have fin : ∀ (L1 L2 L3 : Nat → Int32 → (Nat → Int32) → (Nat → Nat → Int32) → Int64 → (Nat → Int64) → Int32 × (Nat → Int32) × (Nat → Nat → Int32) × Int64 × (Nat → Int64)) (Fq : Nat → Nat → Int32), (∀ q, q ≠ 4 → q ≠ 5 → Fq q = f3 q) → (∀ k, k < n → Fq 4 k = f3 2 k ∧ Fq 5 k = f3 3 k) →
      (∃ F' : Nat → Nat → Int32, (∀ q, q ≠ 16 → q ≠ 17 → q ≠ 18 → F' q = Fq q) ∧ (∀ k, k < a → F' 16 k = Fq 9 k ∧ F' 17 k = Fq 10 k ∧ F' 18 k = Fq 11 k) ∧ L1 (4294967296 + NF) 0 V Fq w4 g5 = L2 (4294967296 + NF) 0 V F' w4 g5) →
      (∀ F0 : Nat → Nat → Int32, ∃ F' : Nat → Nat → Int32, (∀ q, q ≠ 19 → q ≠ 20 → q ≠ 21 → q ≠ 22 → F' q = F0 q) ∧ (∀ k, k < b → F' 19 k = F0 12 k ∧ F' 20 k = F0 13 k ∧ F' 21 k = F0 14 k ∧ F' 22 k = F0 15 k) ∧ L2 (4294967296 + NF) 0 V F0 w4 g5 = (match gsY_X11_begin_1 NF V F' w4 g5 with | (v21, f22, w23, g24) => (match gsY_X11_keepAir_1 NF v21 (upd2 f22 24 (upd (f22 24) (38 : Int32).toNatClampNeg (v21 23))) w23 g24 with | (v27, f28, w29, g30) => L3 (4294967296 + NF) 0 (upd (upd (upd (upd v27 35 0) 36 0) 38 0) 37 0) f28 w29 g30))) →
      (∀ (W : Nat → Int32) (F0 : Nat → Nat → Int32), ∃ F' : Nat → Nat → Int32, (∀ q, q ≠ 36 → F' q = F0 q) ∧ (∀ k, k < 3 → F' 36 k = vp_nar .boolean 0) ∧ L3 (4294967296 + NF) 0 W F0 w4 g5 = (v2 17, W, F', w4, g5)) →
      gsY_X11_regiment_1 NF v f w g = L1 (4294967296 + NF) 0 V Fq w4 g5 →
      ∃ (U : Nat → Int32) (F : Nat → Nat → Int32), gsY_X11_regiment_1 NF v f w g = (v2 17, U, F, w4, g5) ∧ (U 0 = v2 0 ∧ U 1 = v2 1 ∧ U 2 = v2 2 ∧ U 9 = nI n ∧ U 12 = v2 11 ∧ U 16 = v2 15 ∧ U 24 = v2 17 ∧ U 25 = v2 18 ∧ U 26 = v2 19 ∧ U 27 = v2 20 ∧ U 28 = v2 21 ∧ U 29 = v2 22 ∧ U 35 = 0 ∧ U 36 = 0 ∧ U 38 = 0 ∧ U 39 = v2 39) ∧ (∀ k, k < n → F 4 k = f3 2 k ∧ F 5 k = f3 3 k) ∧ (∀ k, k < a → F 16 k = f3 9 k ∧ F 17 k = f3 10 k ∧ F 18 k = f3 11 k) ∧ (∀ k, k < b → F 19 k = f3 12 k ∧ F 20 k = f3 13 k ∧ F 21 k = f3 14 k ∧ F 22 k = f3 15 k) ∧ (∀ k, k < a → F 23 k = f3 10 k ∧ F 23 (6 + k) = -1) ∧ (∀ k, k < b → F 23 (12 + k) = f3 12 k ∧ F 23 (18 + k) = f3 13 k ∧ F 23 (24 + k) = f3 14 k ∧ F 23 (30 + k) = f3 15 k) ∧ F 23 36 = 0 ∧ F 23 37 = 0 ∧ F 23 38 = v2 23 ∧ (∀ k, k < 3 → F 36 k = vp_nar .boolean 0) ∧ F 0 = f3 0 := by
    intro L1 L2 L3 Fq k1 k2 kM kC kB e1
    obtain ⟨A, a1, a2, a3⟩ := kM
    obtain ⟨B, b1, b2, b3⟩ := kC A
    obtain ⟨C, c1, c2, c3, c4, c5, c6⟩ := yBegin (NF := NF) (F0 := B) (W := w4) (G := g5) V24 V25 ha6 hb6
    have V23 : V 23 = v2 23 := by rw [← hV]; rfl
    rw [c6] at b3
    have b3 : L2 (4294967296 + NF) 0 V A w4 g5 = (match gsY_X11_keepAir_1 NF V (upd2 C 24 (upd (C 24) 38 (V 23))) w4 g5 with | (v27, f28, w29, g30) => L3 (4294967296 + NF) 0 (upd (upd (upd (upd v27 35 0) 36 0) 38 0) 37 0) f28 w29 g30) := b3
    obtain ⟨D, d1, d2, d3⟩ := yKeepAir (NF := NF) (V := V) (F0 := upd2 C 24 (upd (C 24) 38 (V 23))) (W := w4) (G := g5)
    rw [d3] at b3
    have b3 : L2 (4294967296 + NF) 0 V A w4 g5 = L3 (4294967296 + NF) 0 (upd (upd (upd (upd V 35 0) 36 0) 38 0) 37 0) D w4 g5 := b3
    obtain ⟨E, x1, x2, x3⟩ := kB (upd (upd (upd (upd V 35 0) 36 0) 38 0) 37 0) D
    have q24 : ∀ k, k < 39 → E 23 k = upd (C 24) 38 (V 23) k := fun k hk => by rw [x1 23 (by decide), d2 k hk]; rfl
    have qE : ∀ q, q ≠ 36 → q ≠ 23 → q ≠ 24 → E q = B q := fun q z1 z2 z3 => (x1 q z1).trans ((d1 q z2).trans ((u2n z3).trans (c1 q z3)))
    have qA : ∀ q, q ≠ 16 → q ≠ 17 → q ≠ 18 → q ≠ 4 → q ≠ 5 → A q = f3 q := fun q z1 z2 z3 z4 z5 => (a1 q z1 z2 z3).trans (k1 q z4 z5)
    refine ⟨upd (upd (upd (upd V 35 0) 36 0) 38 0) 37 0, E, (e1.trans a3).trans (b3.trans x3), ?_, fun k hk => ?_, fun k hk => ?_, fun k hk => ?_, fun k hk => ?_, fun k hk => ?_, ?_, ?_, ?_, x2, ?_⟩
    · rw [← hV]
      exact ⟨rfl, rfl, rfl, rfl, rfl, rfl, rfl, rfl, rfl, rfl, rfl, rfl, rfl, rfl, rfl, rfl⟩
    · rw [qE 4 (by decide) (by decide) (by decide), qE 5 (by decide) (by decide) (by decide), b1 4 (by decide) (by decide) (by decide) (by decide), b1 5 (by decide) (by decide) (by decide) (by decide), a1 4 (by decide) (by decide) (by decide), a1 5 (by decide) (by decide) (by decide)]
      exact k2 k hk
    · rw [qE 16 (by decide) (by decide) (by decide), qE 17 (by decide) (by decide) (by decide), qE 18 (by decide) (by decide) (by decide), b1 16 (by decide) (by decide) (by decide) (by decide), b1 17 (by decide) (by decide) (by decide) (by decide), b1 18 (by decide) (by decide) (by decide) (by decide), (a2 k hk).1, (a2 k hk).2.1, (a2 k hk).2.2, k1 9 (by decide) (by decide), k1 10 (by decide) (by decide), k1 11 (by decide) (by decide)]
      exact ⟨rfl, rfl, rfl⟩
    · rw [qE 19 (by decide) (by decide) (by decide), qE 20 (by decide) (by decide) (by decide), qE 21 (by decide) (by decide) (by decide), qE 22 (by decide) (by decide) (by decide), (b2 k hk).1, (b2 k hk).2.1, (b2 k hk).2.2.1, (b2 k hk).2.2.2, qA 12 (by decide) (by decide) (by decide) (by decide) (by decide), qA 13 (by decide) (by decide) (by decide) (by decide) (by decide), qA 14 (by decide) (by decide) (by decide) (by decide) (by decide), qA 15 (by decide) (by decide) (by decide) (by decide) (by decide)]
      exact ⟨rfl, rfl, rfl, rfl⟩
    · rw [q24 k (by omega), q24 (6 + k) (by omega), pk_un (by omega), pk_un (by omega), (c2 k hk).1, (c2 k hk).2, b1 17 (by decide) (by decide) (by decide) (by decide), (a2 k hk).2.1, k1 10 (by decide) (by decide)]
      exact ⟨rfl, rfl⟩
    · obtain ⟨y1, y2, y3, y4⟩ := c3 k hk
      rw [q24 (12 + k) (by omega), q24 (18 + k) (by omega), q24 (24 + k) (by omega), q24 (30 + k) (by omega), pk_un (by omega), pk_un (by omega), pk_un (by omega), pk_un (by omega), y1, y2, y3, y4, (b2 k hk).1, (b2 k hk).2.1, (b2 k hk).2.2.1, (b2 k hk).2.2.2, qA 12 (by decide) (by decide) (by decide) (by decide) (by decide), qA 13 (by decide) (by decide) (by decide) (by decide) (by decide), qA 14 (by decide) (by decide) (by decide) (by decide) (by decide), qA 15 (by decide) (by decide) (by decide) (by decide) (by decide)]
      exact ⟨rfl, rfl, rfl, rfl⟩
    · rw [q24 36 (by decide), pk_un (by decide)]; exact c4
    · rw [q24 37 (by decide), pk_un (by decide)]; exact c5
    · rw [q24 38 (by decide), pk_us]; exact V23
    · rw [qE 0 (by decide) (by decide) (by decide), b1 0 (by decide) (by decide) (by decide) (by decide), qA 0 (by decide) (by decide) (by decide) (by decide) (by decide)]
  rcases h15 with ⟨h15, rfl⟩ | ⟨h15, h8⟩
  · refine fin (gsY_X11_regiment_1_L12 NF v2) (gsY_X11_regiment_1_L16 NF v2) (gsY_X11_regiment_1_L31 NF v2) f3 (fun q _ _ => rfl) (fun k hk => absurd hk (Nat.not_lt_zero _)) ?_ ?_ ?_ ?_
    · obtain ⟨F', q1, _, _, _, q5, q6⟩ := yRegMa (NF := NF) (V := V) (F0 := f3) (W := w4) (G := g5) ha ha6
      exact ⟨F', q1, q5, q6⟩
    · intro F0
      obtain ⟨F', q1, _, _, _, _, q5, q6⟩ := yRegCa (NF := NF) (V := V) (F0 := F0) (W := w4) (G := g5) hb hb6
      exact ⟨F', q1, q5, q6⟩
    · intro W F0
      obtain ⟨F', q1, _, q5, q6⟩ := yRegBa (NF := NF) (vv := v2) (V := W) (F0 := F0) (W := w4) (G := g5)
      exact ⟨F', q1, q5, q6⟩
    · simp only [gsY_X11_regiment_1, e]
      rw [if_pos h10, if_pos h15]
      have e0 : ∀ (fu : Nat) (X : Nat → Int32), gsY_X11_regiment_1_L10 NF v2 (fu + 1) 0 X f3 w4 g5 = gsY_X11_regiment_1_L12 NF v2 (4294967296 + NF) 0 X f3 w4 g5 := fun fu X => by
        simp only [gsY_X11_regiment_1_L10]
        rw [if_pos (by decide)]
      obtain ⟨M, hM⟩ : ∃ M, 4294967296 + NF = M + 1 := ⟨4294967295 + NF, by omega⟩
      have e1 := e0 M (upd (upd (upd (upd (upd (upd (upd (upd (upd v2 24 (v2 17)) 25 (v2 18)) 26 (v2 19)) 27 (v2 20)) 28 (v2 21)) 29 (v2 22)) 12 (v2 11)) 16 (v2 15)) 9 0)
      rw [← hM] at e1
      rw [e1, ← hV]
      rfl
  · obtain ⟨Fq, q1, _, _, q5, q6⟩ := yRegF (NF := NF) (V := V) (F0 := f3) (W := w4) (G := g5) h8 hn
    refine fin (gsY_X11_regiment_1_L70 NF v2) (gsY_X11_regiment_1_L74 NF v2) (gsY_X11_regiment_1_L89 NF v2) Fq q1 q5 ?_ ?_ ?_ ?_
    · obtain ⟨F', r1, _, _, _, r5, r6⟩ := yRegMb (NF := NF) (V := V) (F0 := Fq) (W := w4) (G := g5) ha ha6
      exact ⟨F', r1, r5, r6⟩
    · intro F0
      obtain ⟨F', r1, _, _, _, _, r5, r6⟩ := yRegCb (NF := NF) (V := V) (F0 := F0) (W := w4) (G := g5) hb hb6
      exact ⟨F', r1, r5, r6⟩
    · intro W F0
      obtain ⟨F', r1, _, r5, r6⟩ := yRegBb (NF := NF) (vv := v2) (V := W) (F0 := F0) (W := w4) (G := g5)
      exact ⟨F', r1, r5, r6⟩
    · simp only [gsY_X11_regiment_1, e]
      rw [if_pos h10, if_neg (show ¬ v2 15 = 0 by rw [h15]; decide), ← q6, ← hV, h8]
theorem yRegFail {v v2 : Nat → Int32} {f f3 : Nat → Nat → Int32} {w w4 : Int64} {g g5 : Nat → Int64} (e : gsY_X11_readAll_1 NF v f w g = (v2, f3, w4, g5)) (h1 : ¬ v2 1 ≤ 0) : gsY_X11_regiment_1 NF v f w g = (-1, v2, f3, w4, g5) := by
  simp only [gsY_X11_regiment_1, e]
  rw [if_neg h1]
end
end
section
section
variable {NF : Nat} {v : Nat → Int32} {f : Nat → Nat → Int32} {v1 : Nat → Int32} {f1 : Nat → Nat → Int32} {w1 : Int64} {g : Nat → Int64}
def STM (f f1 : Nat → Nat → Int32) (a : Nat) : Prop := ∀ j, j < a → f 9 j = f1 16 j ∧ f 9 (6 + j) = f1 17 j ∧ f 9 (12 + j) = f1 18 j ∧ MB (f 9 j) (f 9 (6 + j)) (f 9 (12 + j))
def STC (f f1 : Nat → Nat → Int32) (b : Nat) : Prop := ∀ j, j < b → f 10 j = f1 19 j ∧ f 10 (6 + j) = f1 20 j ∧ f 10 (12 + j) = f1 21 j ∧ f 10 (18 + j) = f1 22 j ∧ CB (f 10 j) (f 10 (6 + j)) (f 10 (12 + j)) (f 10 (18 + j))
def STS (v v1 : Nat → Int32) : Prop := v 33 = v1 26 ∧ v 34 = v1 27 ∧ v 35 = v1 28 ∧ v 36 = v1 29 ∧ (0 ≤ v 33 ∧ v 33 ≤ 999) ∧ (0 ≤ v 34 ∧ v 34 ≤ 999) ∧ (0 ≤ v 35 ∧ v 35 ≤ 99) ∧ (0 ≤ v 36 ∧ v 36 ≤ 100)
def STF (v : Nat → Int32) (f : Nat → Nat → Int32) (v1 : Nat → Int32) (f1 : Nat → Nat → Int32) : Prop := (v 18 = 0 ∧ v1 16 = 0) ∨ (v1 16 = 1 ∧ ∃ (out : List (Nat × Int32)) (own : Nat), v 18 = nI out.length ∧ v1 9 = nI out.length ∧ out.length ≤ 270 ∧ own ≤ 30 ∧ WFo out own ∧ ∀ j, j < out.length → f 11 j = nI (out.getD j (0, 0)).1 ∧ ((out.getD j (0, 0)).1 = 2 → f 12 j = (out.getD j (0, 0)).2) ∧ f1 4 j = nI (eA (out.getD j (0, 0)).1) ∧ f1 5 j = eB (out.getD j (0, 0)).1 (out.getD j (0, 0)).2)
def STAT (v : Nat → Int32) (f : Nat → Nat → Int32) (v1 : Nat → Int32) (f1 : Nat → Nat → Int32) : Prop := (∃ a b, v 31 = nI a ∧ v1 24 = nI a ∧ a ≤ 6 ∧ v 32 = nI b ∧ v1 25 = nI b ∧ b ≤ 6 ∧ STM f f1 a ∧ STC f f1 b) ∧ STS v v1 ∧ STF v f v1 f1
def SIG (v : Nat → Int32) (f : Nat → Nat → Int32) (v1 : Nat → Int32) (f1 : Nat → Nat → Int32) : Prop := v 0 = v1 39 ∧ ∃ k, k ≤ 30 ∧ v 41 = nI k ∧ v1 38 = nI k ∧ ∀ j, j < k → f 23 j = f1 30 j ∧ f 24 j = f1 33 j ∧ f 25 j = f1 31 j ∧ f 26 j = f1 32 j ∧ (f 26 j = -1 ∨ 0 ≤ f 26 j)
def R3 (v : Nat → Int32) (f : Nat → Nat → Int32) (v1 : Nat → Int32) (f1 : Nat → Nat → Int32) : Prop := REL v f v1 f1 ∧ STAT v f v1 f1 ∧ SIG v f v1 f1
abbrev XSI : List Nat := [18, 31, 32, 33, 34, 35, 36]
abbrev XSF : List Nat := [9, 10, 11, 12]
abbrev YSI : List Nat := [9, 16, 24, 25, 26, 27, 28, 29]
abbrev YSF : List Nat := [4, 5, 16, 17, 18, 19, 20, 21, 22]
abbrev XRI : List Nat := [1, 7, 8]
abbrev XRF : List Nat := [0]
abbrev YRI : List Nat := [0, 1, 2]
abbrev YRF : List Nat := [0]
abbrev XGI : List Nat := [0, 41]
abbrev XGF : List Nat := [23, 24, 25, 26]
abbrev YGI : List Nat := [38, 39]
abbrev YGF : List Nat := [30, 31, 32, 33]
abbrev XAI : List Nat := [18, 31, 32, 33, 34, 35, 36, 1, 7, 8, 0, 41]
abbrev XAF : List Nat := [9, 10, 11, 12, 0, 23, 24, 25, 26]
abbrev YAI : List Nat := [9, 16, 24, 25, 26, 27, 28, 29, 0, 1, 2, 38, 39]
abbrev YAF : List Nat := [4, 5, 16, 17, 18, 19, 20, 21, 22, 0, 30, 31, 32, 33]
section
variable {v' : Nat → Int32} {f' : Nat → Nat → Int32} {v1' : Nat → Int32} {f1' : Nat → Nat → Int32}
theorem STAT.keep (h : STAT v f v1 f1) (a : ∀ k, XSI.contains k = true → v' k = v k) (b : ∀ k, XSF.contains k = true → f' k = f k) (c : ∀ k, YSI.contains k = true → v1' k = v1 k) (d : ∀ k, YSF.contains k = true → f1' k = f1 k) : STAT v' f' v1' f1' := by
  obtain ⟨⟨A, B, h1, h2, h3, h4, h5, h6, h7, h8⟩, ⟨s1, s2, s3, s4, s5, s6, s7, s8⟩, hF⟩ := h
  refine ⟨⟨A, B, (a 31 rfl).trans h1, (c 24 rfl).trans h2, h3, (a 32 rfl).trans h4, (c 25 rfl).trans h5, h6, fun j hj => ?_, fun j hj => ?_⟩, ?_, ?_⟩
  · rw [b 9 rfl, d 16 rfl, d 17 rfl, d 18 rfl]; exact h7 j hj
  · rw [b 10 rfl, d 19 rfl, d 20 rfl, d 21 rfl, d 22 rfl]; exact h8 j hj
  · unfold STS
    rw [a 33 rfl, a 34 rfl, a 35 rfl, a 36 rfl, c 26 rfl, c 27 rfl, c 28 rfl, c 29 rfl]
    exact ⟨s1, s2, s3, s4, s5, s6, s7, s8⟩
  · unfold STF
    rw [a 18 rfl, c 16 rfl, c 9 rfl, b 11 rfl, b 12 rfl, d 4 rfl, d 5 rfl]
    exact hF
theorem SIG.keep (h : SIG v f v1 f1) (a : ∀ k, XGI.contains k = true → v' k = v k) (b : ∀ k, XGF.contains k = true → f' k = f k) (c : ∀ k, YGI.contains k = true → v1' k = v1 k) (d : ∀ k, YGF.contains k = true → f1' k = f1 k) : SIG v' f' v1' f1' := by
  unfold SIG
  rw [a 0 rfl, a 41 rfl, c 38 rfl, c 39 rfl, b 23 rfl, b 24 rfl, b 25 rfl, b 26 rfl, d 30 rfl, d 31 rfl, d 32 rfl, d 33 rfl]
  exact h
theorem kx_in {N M : List Nat} (hs : N.all (fun k => M.contains k) = true) {k : Nat} (hk : N.contains k = true) : M.contains k = true := by
  have m : k ∈ N := by simpa using hk
  exact List.all_eq_true.mp hs k m
theorem R3.keep (h : R3 v f v1 f1) (a : ∀ k, XAI.contains k = true → v' k = v k) (b : ∀ k, XAF.contains k = true → f' k = f k) (c : ∀ k, YAI.contains k = true → v1' k = v1 k) (d : ∀ k, YAF.contains k = true → f1' k = f1 k) : R3 v' f' v1' f1' :=
  ⟨h.1.keep (a 1 rfl) (b 0 rfl) (a 7 rfl) (a 8 rfl) (c 0 rfl) (d 0 rfl) (c 1 rfl) (c 2 rfl),
   h.2.1.keep (fun k hk => a k (kx_in (by decide) hk)) (fun k hk => b k (kx_in (by decide) hk)) (fun k hk => c k (kx_in (by decide) hk)) (fun k hk => d k (kx_in (by decide) hk)),
   h.2.2.keep (fun k hk => a k (kx_in (by decide) hk)) (fun k hk => b k (kx_in (by decide) hk)) (fun k hk => c k (kx_in (by decide) hk)) (fun k hk => d k (kx_in (by decide) hk))⟩
theorem R3.tape (h : R3 v f v1 f1) (r : REL v' f' v1' f1') (a : ∀ k, (XSI ++ XGI).contains k = true → v' k = v k) (b : ∀ k, (XSF ++ XGF).contains k = true → f' k = f k) (c : ∀ k, (YSI ++ YGI).contains k = true → v1' k = v1 k) (d : ∀ k, (YSF ++ YGF).contains k = true → f1' k = f1 k) : R3 v' f' v1' f1' :=
  ⟨r, h.2.1.keep (fun k hk => a k (kx_in (by decide) hk)) (fun k hk => b k (kx_in (by decide) hk)) (fun k hk => c k (kx_in (by decide) hk)) (fun k hk => d k (kx_in (by decide) hk)),
   h.2.2.keep (fun k hk => a k (kx_in (by decide) hk)) (fun k hk => b k (kx_in (by decide) hk)) (fun k hk => c k (kx_in (by decide) hk)) (fun k hk => d k (kx_in (by decide) hk))⟩
end
theorem R3.feed {p1 p2 p3 p4 p5 r r' : Int32} {u : (Nat → Int32) × (Nat → Nat → Int32)} {u' : (Nat → Int32) × (Nat → Nat → Int32) × Int64 × (Nat → Int64)} (h : R3 v f v1 f1) (e : gsX_X10_feed_1 NF p1 p2 p3 p4 p5 v f = (r, u)) (e' : gsY_X11_feed_1 NF p1 p2 p3 p4 p5 v1 f1 w1 g = (r', u')) (a : ∀ k, (XSI ++ XGI).contains k = true → u.1 k = v k) (b : ∀ k, (XSF ++ XGF).contains k = true → u.2 k = f k) (c : ∀ k, (YSI ++ YGI).contains k = true → u'.1 k = v1 k) (d : ∀ k, (YSF ++ YGF).contains k = true → u'.2.1 k = f1 k) : r = r' ∧ R3 u.1 u.2 u'.1 u'.2.1 :=
  ⟨(h.1.feed e e').1, h.tape (h.1.feed e e').2 a b c d⟩
theorem R3.ends {p r r' : Int32} {u : (Nat → Int32) × (Nat → Nat → Int32)} {u' : (Nat → Int32) × (Nat → Nat → Int32) × Int64 × (Nat → Int64)} (h : R3 v f v1 f1) (e : gsX_X10_end_1 NF p v f = (r, u)) (e' : gsY_X11_end_1 NF p v1 f1 w1 g = (r', u')) (a : ∀ k, (XSI ++ XGI).contains k = true → u.1 k = v k) (b : ∀ k, (XSF ++ XGF).contains k = true → u.2 k = f k) (c : ∀ k, (YSI ++ YGI).contains k = true → u'.1 k = v1 k) (d : ∀ k, (YSF ++ YGF).contains k = true → u'.2.1 k = f1 k) : r = r' ∧ R3 u.1 u.2 u'.1 u'.2.1 :=
  ⟨(h.1.ends e e').1, h.tape (h.1.ends e e').2 a b c d⟩
theorem R3.reg {r r' : Int32} {u : (Nat → Int32) × (Nat → Nat → Int32)} {u' : (Nat → Int32) × (Nat → Nat → Int32) × Int64 × (Nat → Int64)} (h : R3 v f v1 f1) (e : gsX_X10_regiment_1 NF v f = (r, u)) (z0 : (u.1 1).toInt = 0) (t0 : u.1 0 = v 0) (a : (gsX_X6_read_1 NF v f).1 = 1 ∨ ((∀ k, (XSI ++ XGI).contains k = true → u.1 k = v k) ∧ ∀ k, (XSF ++ XGF).contains k = true → u.2 k = f k)) (e' : gsY_X11_regiment_1 NF v1 f1 w1 g = (r', u')) (z1 : (u'.1 0).toInt = 0) (t1 : u'.1 39 = v1 39) (b : (gsY_X11_readAll_1 NF v1 f1 w1 g).1 1 ≤ 0 ∨ ((∀ k, (YSI ++ YGI).contains k = true → u'.1 k = v1 k) ∧ ∀ k, (YSF ++ YGF).contains k = true → u'.2.1 k = f1 k)) : r = r' ∧ R3 u.1 u.2 u'.1 u'.2.1 := by
  obtain ⟨⟨⟨c, n, t⟩, h7, h8⟩, hS, hG⟩ := h
  have T0 : ∃ (c : Nat → Nat) (n : Nat), TAP c n u.1 u.2 u'.1 u'.2.1 := ⟨c, 0, Nat.zero_le _, n0_of z0, n0_of z1, fun k hk => absurd hk (Nat.not_lt_zero _)⟩
  rcases readPair (NF := NF) (w1 := w1) (g := g) t with ⟨v', f', v1', f1', w1', g', i', A, B, t', e1, e2, lr⟩ | ⟨v', f', v1', f1', w1', g', e1, e2, lf⟩
  · obtain ⟨l0, ⟨p7, p8, p2⟩, ⟨a1, a2, a3⟩, ⟨b1, b2, b3⟩, lm, lc, _, _, ⟨q0, q6, q15, _⟩, ⟨s1, s2, s3, s4, s5, s6⟩, o1, o2⟩ := lr
    obtain ⟨U, F, x1, ⟨x0, xx1, x7, x8, x18, x19, _, _, _, _, x31, x32, x33, x34, x35, x36, x41⟩, x9, x10, x11, _, _, _, _, _, _⟩ := xReg (NF := NF) e1 a1 b1 a3 b3
    have hform : ∃ n, n ≤ 300 ∧ ((v1' 15 = 0 ∧ n = 0) ∨ (v1' 15 = 1 ∧ v1' 8 = nI n)) := by
      by_cases hp : t' % 2 = 0
      · exact ⟨0, by decide, Or.inl ⟨by rw [q15, hp]; rfl, rfl⟩⟩
      · have hp : t' % 2 = 1 := by omega
        obtain ⟨out, own, k1, k2, k3, _⟩ := o2 hp
        exact ⟨out.length, by omega, Or.inr ⟨by rw [q15, hp]; rfl, k2⟩⟩
    obtain ⟨N, hN, h15⟩ := hform
    obtain ⟨U', F', y1, ⟨y0, yy1, y2, y9, y12, y16, y24, y25, y26, y27, y28, y29, _, _, y38, y39⟩, yF, yM, yC, _, _, _, _, _, _, _⟩ := yReg (NF := NF) e2 l0.2.2.2.2 a2 b2 a3 b3 hN h15
    rw [x1] at e
    rw [y1] at e'
    cases e
    cases e'
    refine ⟨a1.trans a2.symm, ⟨T0, ?_, ?_⟩, ⟨⟨A, B, x31.trans a1, y24.trans a2, a3, x32.trans b1, y25.trans b2, b3, fun j hj => ?_, fun j hj => ?_⟩, ?_, ?_⟩, ?_⟩
    · show U 7 = U' 1
      rw [x7, yy1, p7]; exact l0.2.2.2.2.symm
    · show U 8 = U' 2
      rw [x8, y2, p8, p2]
    · show F 9 j = F' 16 j ∧ F 9 (6 + j) = F' 17 j ∧ F 9 (12 + j) = F' 18 j ∧ MB (F 9 j) (F 9 (6 + j)) (F 9 (12 + j))
      rw [x9 j (by omega), x9 (6 + j) (by omega), x9 (12 + j) (by omega), (yM j hj).1, (yM j hj).2.1, (yM j hj).2.2]
      exact lm j hj
    · show F 10 j = F' 19 j ∧ F 10 (6 + j) = F' 20 j ∧ F 10 (12 + j) = F' 21 j ∧ F 10 (18 + j) = F' 22 j ∧ CB (F 10 j) (F 10 (6 + j)) (F 10 (12 + j)) (F 10 (18 + j))
      rw [x10 j (by omega), x10 (6 + j) (by omega), x10 (12 + j) (by omega), x10 (18 + j) (by omega), (yC j hj).1, (yC j hj).2.1, (yC j hj).2.2.1, (yC j hj).2.2.2]
      exact lc j hj
    · show STS U U'
      unfold STS
      rw [x33, x34, x35, x36, y26, y27, y28, y29]
      exact ⟨s1, s2, s3, s4, s6.1, s6.2.1, s6.2.2.1, s6.2.2.2.1⟩
    · show STF U F U' F'
      unfold STF
      rw [x18, y16, y9]
      by_cases hp : t' % 2 = 0
      · exact Or.inl ⟨(o1 hp).1, by rw [q15, hp]; rfl⟩
      · have hp : t' % 2 = 1 := by omega
        obtain ⟨out, own, k1, k2, k3, k4, k5, k6, k7, k8, k9⟩ := o2 hp
        have q15 : v1' 15 = 1 := by rw [q15, hp]; rfl
        rcases h15 with ⟨z, _⟩ | ⟨_, z⟩
        · rw [q15] at z; exact absurd z (by decide)
        · have zN : nI N = nI out.length := z.symm.trans k2
          have zN : N = out.length := (nI_eq (by omega) (by omega)).mp zN
          refine Or.inr ⟨q15, out, own, k1, by rw [zN], k3, k8, k9, fun j hj => ?_⟩
          obtain ⟨w1, w2⟩ := x11 j (by omega)
          obtain ⟨w3, w4⟩ := yF j (by omega)
          rw [w1, w2, w3, w4]
          exact ⟨(k4 j hj).1, (k4 j hj).2, (k5 j hj).1, (k5 j hj).2⟩
    · refine ⟨?_, 0, by decide, x41, y38, fun j hj => absurd hj (Nat.not_lt_zero _)⟩
      show U 0 = U' 39
      exact (show U 0 = v 0 from t0).trans (hG.1.trans (show U' 39 = v1 39 from t1).symm)
  · obtain ⟨s, j, s0, s1, q1, q2, q3, q4⟩ := lf
    have nle : ¬ v1' 1 ≤ 0 := by rw [q2]; exact nI_nle s0 (by omega)
    have ex := xRegF (NF := NF) e1
    have ey := yRegFail (NF := NF) e2 nle
    rw [e1] at a
    rw [e2] at b
    obtain ⟨a1, a2⟩ := a.resolve_left (show ¬ (0 : Int32) = 1 by decide)
    obtain ⟨b1, b2⟩ := b.resolve_left nle
    rw [ex] at e
    rw [ey] at e'
    cases e
    cases e'
    refine ⟨rfl, ⟨T0, ?_, ?_⟩, hS.keep (fun k hk => a1 k (kx_in (by decide) hk)) (fun k hk => a2 k (kx_in (by decide) hk)) (fun k hk => b1 k (kx_in (by decide) hk)) (fun k hk => b2 k (kx_in (by decide) hk)), hG.keep (fun k hk => a1 k (kx_in (by decide) hk)) (fun k hk => a2 k (kx_in (by decide) hk)) (fun k hk => b1 k (kx_in (by decide) hk)) (fun k hk => b2 k (kx_in (by decide) hk))⟩
    · exact q1.trans q2.symm
    · exact q3.trans q4.symm
end
end
section
section
variable {NF : Nat} {v : Nat → Int32} {f : Nat → Nat → Int32} {v1 : Nat → Int32} {f1 : Nat → Nat → Int32} {w1 : Int64} {g : Nat → Int64}
theorem fr_u {N : List Nat} {j : Nat} {x : Int32} {a : Nat → Int32} (hj : N.contains j = false) : ∀ k, N.contains k = true → upd a j x k = a k := fun k hk => if_neg (fun z => by rw [z, hj] at hk; cases hk)
theorem fr_u2 {N : List Nat} {j : Nat} {x : Nat → Int32} {a : Nat → Nat → Int32} (hj : N.contains j = false) : ∀ k, N.contains k = true → upd2 a j x k = a k := fun k hk => if_neg (fun z => by rw [z, hj] at hk; cases hk)
theorem nI_subI {a b : Nat} (h : b ≤ a) : nI a - nI b = nI (a - b) := by
  have e : nI a = nI (a - b) + nI b := by rw [nI_add, Nat.sub_add_cancel h]
  rw [e, Int32.add_sub_cancel]
theorem nI_divI {a b : Nat} (ha : a < 2 ^ 31) (hb : b < 2 ^ 31) : nI a / nI b = nI (a / b) := (Int32.ofNat_div ha hb).symm
theorem nI_modI {a b : Nat} (ha : a < 2 ^ 31) (hb : b < 2 ^ 31) : nI a - nI a / nI b * nI b = nI (a % b) := by
  rw [nI_divI ha hb, nI_mulI, nI_subI (Nat.div_mul_le_self a b)]
  congr 1
  have q := Nat.div_add_mod a b
  rw [Nat.mul_comm] at q
  omega
theorem in_cases (p : Int32) (K : Nat) : (∃ P, P < K ∧ p = nI P) ∨ ¬ ∃ P, P < K ∧ p = nI P := Classical.em _
theorem yIsIn1 {P K : Nat} (h : P < K) (hK : K < 2 ^ 31) : gsY_X11_isIn_1 NF (nI P) 0 (nI K - 1) v1 f1 w1 g = 1 := by
  simp only [gsY_X11_isIn_1]
  rw [if_neg (nI_pos (by omega)), show nI K - 1 = nI (K - 1) from nI_subI (b := 1) (by omega), if_neg (nI_nlt (by omega) (by omega))]
theorem yIsIn0 {p : Int32} {K : Nat} (h : ¬ ∃ P, P < K ∧ p = nI P) (hK : K < 2 ^ 31) : gsY_X11_isIn_1 NF p 0 (nI K - 1) v1 f1 w1 g = 0 := by
  simp only [gsY_X11_isIn_1]
  by_cases c1 : p < 0
  · rw [if_pos c1]
  · rw [if_neg c1]
    obtain ⟨P, hP, rfl⟩ := nI_of c1
    have hPK : K ≤ P := Nat.le_of_not_lt (fun z => h ⟨P, z, rfl⟩)
    by_cases c2 : K = 0
    · rw [c2, if_pos]
      show (-1 : Int32) < nI P
      rw [fa_lt, nI_toInt hP]
      show (-1 : Int) < _
      omega
    · rw [show nI K - 1 = nI (K - 1) from nI_subI (b := 1) (by omega), if_pos (nI_lt (by omega) hP)]
theorem R3.later {p r r' : Int32} {u : (Nat → Int32) × (Nat → Nat → Int32)} {u' : (Nat → Int32) × (Nat → Nat → Int32) × Int64 × (Nat → Int64)} (h : R3 v f v1 f1) (e : gsX_X10_later_1 NF p v f = (r, u)) (e' : gsY_X11_later_1 NF p v1 f1 w1 g = (r', u')) : r = r' ∧ R3 u.1 u.2 u'.1 u'.2.1 := by
  have h0 := h.2.2.1
  simp only [gsX_X10_later_1] at e
  simp only [gsY_X11_later_1, ← h0] at e'
  by_cases c1 : p < 0
  · rw [if_pos c1] at e e'
    cases e; cases e'
    exact ⟨rfl, h⟩
  · rw [if_neg c1] at e e'
    by_cases c2 : 1000 < p
    · rw [if_pos c2] at e e'
      cases e; cases e'
      exact ⟨rfl, h⟩
    · rw [if_neg c2] at e e'
      by_cases c3 : v 0 + p ≤ 100000
      · rw [if_pos c3] at e e'
        cases e; cases e'
        obtain ⟨r, s, _, k, k0, k1, k2, k3⟩ := h
        exact ⟨rfl, r.keep rfl rfl rfl rfl rfl rfl rfl rfl, s.keep (fr_u rfl) (fun _ _ => rfl) (fr_u rfl) (fun _ _ => rfl), rfl, k, k0, k1, k2, k3⟩
      · rw [if_neg c3] at e e'
        cases e; cases e'
        exact ⟨rfl, h⟩
theorem R3.seen {p1 p2 r r' : Int32} {u : (Nat → Int32) × (Nat → Nat → Int32)} {u' : (Nat → Int32) × (Nat → Nat → Int32) × Int64 × (Nat → Int64)} (h : R3 v f v1 f1) (e : gsX_X10_seen_1 NF p1 p2 v f = (r, u)) (e' : gsY_X11_seen_1 NF p1 p2 v1 f1 w1 g = (r', u')) : r = r' ∧ R3 u.1 u.2 u'.1 u'.2.1 := by
  have hh := h
  obtain ⟨hr, ⟨⟨A, B, a1, a2, a3, b1, b2, b3, am, bm⟩, ss, sf⟩, h0, K, k0, k1, k2, k3⟩ := h
  have bad : gsX_X10_seen_1 NF p1 p2 v f = (-1, v, f) → gsY_X11_seen_1 NF p1 p2 v1 f1 w1 g = (-1, v1, f1, w1, g) → r = r' ∧ R3 u.1 u.2 u'.1 u'.2.1 := fun x y => by
    rw [x] at e
    rw [y] at e'
    cases e; cases e'
    exact ⟨rfl, hh⟩
  by_cases c3 : p1 < 0
  · refine bad ?_ ?_
    · simp only [gsX_X10_seen_1, gsX_X8_tell_1, if_pos c3]
      by_cases x1 : v 31 = 0
      · rw [if_pos x1]
      · rw [if_neg x1]
        by_cases x2 : v 32 = 0
        · rw [if_pos x2]
        · rw [if_neg x2]
    · simp only [gsY_X11_seen_1, gsY_X11_isIn_1, if_pos c3, ite01]
  · by_cases c4 : 20 < p1
    · refine bad ?_ ?_
      · simp only [gsX_X10_seen_1, gsX_X8_tell_1, if_neg c3, if_pos c4]
        by_cases x1 : v 31 = 0
        · rw [if_pos x1]
        · rw [if_neg x1]
          by_cases x2 : v 32 = 0
          · rw [if_pos x2]
          · rw [if_neg x2]
      · simp only [gsY_X11_seen_1, gsY_X11_isIn_1, if_neg c3, if_pos c4, ite01]
    · by_cases c1 : nI A = 0
      · refine bad ?_ ?_
        · simp only [gsX_X10_seen_1, a1, if_pos c1]
        · simp only [gsY_X11_seen_1, gsY_X11_isIn_1, if_neg c3, if_neg c4, ite11, if_true, a2, if_pos c1]
      · by_cases c2 : nI B = 0
        · refine bad ?_ ?_
          · simp only [gsX_X10_seen_1, a1, if_neg c1, b1, if_pos c2]
          · simp only [gsY_X11_seen_1, gsY_X11_isIn_1, if_neg c3, if_neg c4, ite11, if_true, a2, if_neg c1, b2, if_pos c2]
        · by_cases c5 : K < 30
          · have x5 : nI K < (30 : Int32) := nI_lt (b := 30) c5 (by decide)
            have y5 : ¬ nI K = (30 : Int32) := nlit 30 30 rfl (by omega) (by decide) (by omega)
            simp only [gsX_X10_seen_1, gsX_X8_tell_1, a1, if_neg c1, b1, if_neg c2, if_neg c3, if_neg c4, k1, if_pos x5, nI_clamp (show K < 2 ^ 31 by omega), nI_1] at e
            simp only [gsY_X11_seen_1, gsY_X11_isIn_1, if_neg c3, if_neg c4, ite11, if_true, a2, if_neg c1, b2, if_neg c2, k2, if_neg y5, nI_clamp (show K < 2 ^ 31 by omega), nI_1] at e'
            cases e; cases e'
            refine ⟨rfl, hr.keep rfl rfl rfl rfl rfl rfl rfl rfl, ?_, h0, K + 1, by omega, rfl, rfl, fun j hj => ?_⟩
            · exact STAT.keep hh.2.1 (fr_u rfl) (fun k hk => ((fr_u2 (N := XSF) rfl k hk).trans ((fr_u2 (N := XSF) rfl k hk).trans ((fr_u2 (N := XSF) rfl k hk).trans (fr_u2 (N := XSF) rfl k hk))))) (fr_u rfl) (fun k hk => ((fr_u2 (N := YSF) rfl k hk).trans ((fr_u2 (N := YSF) rfl k hk).trans ((fr_u2 (N := YSF) rfl k hk).trans (fr_u2 (N := YSF) rfl k hk)))))
            · show upd (f 23) K p1 j = upd (f1 30) K p1 j ∧ upd (f 24) K (vp_nar .boolean p2) j = upd (f1 33) K (vp_nar .boolean p2) j ∧ upd (f 25) K (v 0) j = upd (f1 31) K (v1 39) j ∧ upd (f 26) K (-1) j = upd (f1 32) K (-1) j ∧ (upd (f 26) K (-1) j = -1 ∨ 0 ≤ upd (f 26) K (-1) j)
              by_cases ej : j = K
              · rw [ej, pk_us, pk_us, pk_us, pk_us, pk_us, pk_us, pk_us, pk_us]
                exact ⟨rfl, rfl, h0, rfl, Or.inl rfl⟩
              · rw [pk_un ej, pk_un ej, pk_un ej, pk_un ej, pk_un ej, pk_un ej, pk_un ej, pk_un ej]
                exact k3 j (by omega)
          · have e30 : K = 30 := by omega
            have x5 : ¬ nI K < (30 : Int32) := nI_nlt (b := 30) (by omega) (by omega)
            have y5 : nI K = (30 : Int32) := by rw [e30]; rfl
            refine bad ?_ ?_
            · simp only [gsX_X10_seen_1, gsX_X8_tell_1, a1, if_neg c1, b1, if_neg c2, if_neg c3, if_neg c4, k1, if_neg x5]
            · simp only [gsY_X11_seen_1, gsY_X11_isIn_1, if_neg c3, if_neg c4, ite11, if_true, a2, if_neg c1, b2, if_neg c2, k2, if_pos y5]
theorem R3.untell {p r r' : Int32} {u : (Nat → Int32) × (Nat → Nat → Int32)} {u' : (Nat → Int32) × (Nat → Nat → Int32) × Int64 × (Nat → Int64)} (h : R3 v f v1 f1) (ht : 0 ≤ (v 0).toInt) (e : gsX_X10_untell_1 NF p v f = (r, u)) (e' : gsY_X11_untell_1 NF p v1 f1 w1 g = (r', u')) : r = r' ∧ R3 u.1 u.2 u'.1 u'.2.1 := by
  have hh := h
  obtain ⟨hr, hs, h0, K, k0, k1, k2, k3⟩ := h
  have bad : gsX_X10_untell_1 NF p v f = (0, v, f) → gsY_X11_untell_1 NF p v1 f1 w1 g = (0, v1, f1, w1, g) → r = r' ∧ R3 u.1 u.2 u'.1 u'.2.1 := fun x y => by
    rw [x] at e
    rw [y] at e'
    cases e; cases e'
    exact ⟨rfl, hh⟩
  rcases in_cases p K with ⟨P, hP, rfl⟩ | hn
  · have x1 : ¬ nI P < (0 : Int32) := nI_pos (by omega)
    have x2 : ¬ nI K ≤ nI P := nI_ge hP (by omega)
    have x3 : ¬ (30 : Int32) ≤ nI P := lit_nle (b := 30) rfl (by omega) (by decide)
    obtain ⟨q1, q2, q3, q4, q5⟩ := k3 P hP
    have yi := yIsIn1 (NF := NF) (v1 := v1) (f1 := f1) (w1 := w1) (g := g) hP (show K < 2 ^ 31 by omega)
    by_cases c : f 26 P = -1
    · have c' : f1 32 P < 0 := by rw [← q4, c]; decide
      have ex : gsX_X10_untell_1 NF (nI P) v f = (1, v, upd2 f 26 (upd (f 26) P (v 0))) := by
        simp only [gsX_X10_untell_1, gsX_X8_takeBack_1, k1, if_neg x1, if_neg x2, if_neg x3, nI_clamp (show P < 2 ^ 31 by omega), if_pos c, ite11, if_true]
      have ey : gsY_X11_untell_1 NF (nI P) v1 f1 w1 g = (1, v1, upd2 f1 32 (upd (f1 32) P (v1 39)), w1, g) := by
        simp only [gsY_X11_untell_1, k2, yi, ite11, if_true, nI_clamp (show P < 2 ^ 31 by omega), if_pos c']
      rw [ex] at e
      rw [ey] at e'
      cases e; cases e'
      refine ⟨rfl, hr.keep rfl rfl rfl rfl rfl rfl rfl rfl, STAT.keep hs (fun _ _ => rfl) (fr_u2 rfl) (fun _ _ => rfl) (fr_u2 rfl), h0, K, k0, k1, k2, fun j hj => ?_⟩
      show f 23 j = f1 30 j ∧ f 24 j = f1 33 j ∧ f 25 j = f1 31 j ∧ upd (f 26) P (v 0) j = upd (f1 32) P (v1 39) j ∧ (upd (f 26) P (v 0) j = -1 ∨ 0 ≤ upd (f 26) P (v 0) j)
      obtain ⟨z1, z2, z3, z4, z5⟩ := k3 j hj
      by_cases ej : j = P
      · rw [ej] at z1 z2 z3 ⊢
        rw [pk_us, pk_us]
        exact ⟨z1, z2, z3, h0, Or.inr ((fa_le _ _).mpr ht)⟩
      · rw [pk_un ej, pk_un ej]
        exact ⟨z1, z2, z3, z4, z5⟩
    · have c' : ¬ f1 32 P < 0 := by
        rw [← q4]
        have z := q5.resolve_left c
        have z' := (fa_le _ _).mp z
        rw [fa_lt]
        have z0 : (0 : Int32).toInt = 0 := by decide
        omega
      refine bad ?_ ?_
      · simp only [gsX_X10_untell_1, gsX_X8_takeBack_1, k1, if_neg x1, if_neg x2, if_neg x3, nI_clamp (show P < 2 ^ 31 by omega), if_neg c, ite01]
      · simp only [gsY_X11_untell_1, k2, yi, ite11, if_true, nI_clamp (show P < 2 ^ 31 by omega), if_neg c']
  · have yi := yIsIn0 (NF := NF) (v1 := v1) (f1 := f1) (w1 := w1) (g := g) hn (show K < 2 ^ 31 by omega)
    refine bad ?_ ?_
    · by_cases c1 : p < 0
      · simp only [gsX_X10_untell_1, gsX_X8_takeBack_1, if_pos c1, ite01]
      · obtain ⟨P, hP, rfl⟩ := nI_of c1
        have x2 : nI K ≤ nI P := nI_le (Nat.le_of_not_lt (fun z => hn ⟨P, z, rfl⟩)) hP
        simp only [gsX_X10_untell_1, gsX_X8_takeBack_1, k1, if_neg c1, if_pos x2, ite01]
    · simp only [gsY_X11_untell_1, k2, yi, ite01]
def eu : Nat → Nat → Nat → Option Nat
  | 0, _, _ => none
  | k + 1, a, b => if b = 0 then some a else eu k b (a % b)
theorem euX : ∀ (k a b i fu d : Nat), eu k a b = some d → i + k ≤ 100 → a < 2 ^ 31 → b < 2 ^ 31 → k ≤ fu → gsX_X10_commonDivisor_1_L1 NF fu (nI a) (nI b) (nI i) = nI d := by
  intro k
  induction k with
  | zero => intro a b i fu d h; cases h
  | succ k ih =>
    intro a b i fu d h hi ha hb hf
    obtain ⟨fu, rfl⟩ : ∃ z, fu = z + 1 := ⟨fu - 1, by omega⟩
    simp only [eu] at h
    simp only [gsX_X10_commonDivisor_1_L1]
    rw [if_neg (show ¬ (100 : Int32) ≤ nI i from lit_nle (b := 100) rfl (by omega) (by decide))]
    by_cases c : b = 0
    · rw [if_pos c] at h
      rw [if_pos (show nI b = 0 by rw [c]; rfl)]
      injection h with h
      rw [h]
    · rw [if_neg c] at h
      rw [if_neg (nI_ne0 (by omega) hb), nI_modI ha hb, nI_1]
      exact ih b (a % b) (i + 1) fu d h (by omega) hb (Nat.lt_trans (Nat.mod_lt _ (by omega)) hb) (by omega)
theorem euY : ∀ (k a b fu d : Nat), eu k a b = some d → a < 2 ^ 31 → b < 2 ^ 31 → k ≤ fu → gsY_X11_divisor_1_L1 NF fu (nI a) (nI b) = nI d := by
  intro k
  induction k with
  | zero => intro a b fu d h; cases h
  | succ k ih =>
    intro a b fu d h ha hb hf
    obtain ⟨fu, rfl⟩ : ∃ z, fu = z + 1 := ⟨fu - 1, by omega⟩
    simp only [eu] at h
    simp only [gsY_X11_divisor_1_L1]
    by_cases c : b = 0
    · rw [if_pos c] at h
      rw [if_pos (show nI b ≤ 0 by rw [c]; decide)]
      injection h with h
      rw [h]
    · rw [if_neg c] at h
      rw [if_neg (nI_nle (by omega) hb), nI_modI ha hb]
      exact ih b (a % b) fu d h hb (Nat.lt_trans (Nat.mod_lt _ (by omega)) hb) (by omega)
theorem eu_all : ∀ q, q < 101 → ∀ n, n < 5 → (match eu 60 (100 ^ n) (q ^ n) with | none => false | some d => decide (0 < d ∧ d ≤ 100000000)) = true := by decide +kernel
theorem pw_all : ∀ q, q < 101 → ∀ n, n < 5 → q ^ n ≤ 100000000 ∧ 100 ^ n ≤ 100000000 := by decide +kernel
theorem powY {q n : Nat} (hn : n < 5) : gsY_X11_power_1 NF (nI q) (nI n) v1 f1 w1 g = nI (q ^ n) := by
  have L : ∀ (k j fu : Nat), j + k = n → k < fu → gsY_X11_power_1_L1 NF (nI q) (nI n) fu (nI (q ^ j)) (nI j) = nI (q ^ n) := by
    intro k
    induction k with
    | zero =>
      intro j fu hj hf
      obtain ⟨fu, rfl⟩ : ∃ z, fu = z + 1 := ⟨fu - 1, by omega⟩
      have e : j = n := by omega
      simp only [gsY_X11_power_1_L1]
      rw [if_pos (show nI n ≤ nI j by rw [e]; exact nI_le (Nat.le_refl _) (by omega)), e]
    | succ k ih =>
      intro j fu hj hf
      obtain ⟨fu, rfl⟩ : ∃ z, fu = z + 1 := ⟨fu - 1, by omega⟩
      simp only [gsY_X11_power_1_L1]
      rw [if_neg (show ¬ nI n ≤ nI j from nI_ge (by omega) (by omega)), nI_mulI, nI_1, ← Nat.pow_succ]
      exact ih (j + 1) fu (by omega) (by omega)
  exact L n 0 (4294967296 + NF) (by omega) (by omega)
theorem powX {p2 : Int32} {q n : Nat} (h36 : 100 - v 36 = nI q) (hn : n < 5) : ∀ (k j fu : Nat), j + k = n → k < fu → ∃ fu', gsX_X10_odds_1_L5 NF (nI n) p2 v f fu (nI (q ^ j)) (nI (100 ^ j)) (nI j) = gsX_X10_odds_1_L5 NF (nI n) p2 v f (fu' + 1) (nI (q ^ n)) (nI (100 ^ n)) (nI n) := by
  intro k
  induction k with
  | zero =>
    intro j fu hj hf
    obtain ⟨fu, rfl⟩ : ∃ z, fu = z + 1 := ⟨fu - 1, by omega⟩
    have e : j = n := by omega
    exact ⟨fu, by rw [e]⟩
  | succ k ih =>
    intro j fu hj hf
    obtain ⟨fu, rfl⟩ : ∃ z, fu = z + 1 := ⟨fu - 1, by omega⟩
    obtain ⟨fu', e⟩ := ih (j + 1) fu (by omega) (by omega)
    refine ⟨fu', Eq.trans ?_ e⟩
    conv => lhs; unfold gsX_X10_odds_1_L5
    simp only [h36]
    rw [if_neg (show ¬ nI n ≤ nI j from nI_ge (by omega) (by omega)), nI_mulI, nI_1, ← Nat.pow_succ, show nI (100 ^ j) * 100 = nI (100 ^ j * 100) from nI_mulI _ 100, ← Nat.pow_succ]
theorem R3.odds (h : R3 v f v1 f1) (p1 p2 : Int32) : gsX_X10_odds_1 NF p1 p2 v f = gsY_X11_odds_1 NF p1 p2 v1 f1 w1 g := by
  obtain ⟨_, ⟨_, ⟨_, _, _, s4, _, _, _, s8⟩, _⟩, _⟩ := h
  have z0 : (0 : Int32).toInt = 0 := by decide
  have z100 : (100 : Int32).toInt = 100 := by decide
  have l0 := (fa_le _ _).mp s8.1
  have l1 := (fa_le _ _).mp s8.2
  obtain ⟨R, hR, e36⟩ := nI_ofI (show 0 ≤ (v 36).toInt by omega)
  have hR : R ≤ 100 := by rw [e36, nI_toInt hR] at l1; omega
  have q36 : 100 - v 36 = nI (100 - R) := by rw [e36]; exact nI_subI (a := 100) hR
  have q29 : 100 - v1 29 = nI (100 - R) := by rw [← s4]; exact q36
  generalize hq : 100 - R = q at q36 q29
  have hq : q < 101 := by omega
  by_cases c1 : p1 < 0
  · simp only [gsX_X10_odds_1, gsY_X11_odds_1, gsY_X11_isIn_1, if_pos c1, ite01]
  · by_cases c2 : 4 < p1
    · simp only [gsX_X10_odds_1, gsY_X11_odds_1, gsY_X11_isIn_1, if_neg c1, if_pos c2, ite01]
    · by_cases c3 : p2 < 0
      · simp only [gsX_X10_odds_1, gsY_X11_odds_1, gsY_X11_isIn_1, if_neg c1, if_neg c2, if_pos c3, ite01, ite11, if_true]
      · by_cases c4 : p2 ≤ 1
        · have c5 : ¬ 1 < p2 := fun z => by
            have a := (fa_le _ _).mp c4
            have b := (fa_lt _ _).mp z
            omega
          obtain ⟨n, hn0, rfl⟩ := nI_of c1
          have hn : n < 5 := Nat.lt_of_not_le (fun z => c2 (nI_lt (a := 4) (by omega) hn0))
          obtain ⟨pw1, pw2⟩ := pw_all q hq n hn
          have ea := eu_all q hq n hn
          rcases hd : eu 60 (100 ^ n) (q ^ n) with _ | d
          · rw [hd] at ea; cases ea
          · rw [hd] at ea
            have ea : decide (0 < d ∧ d ≤ 100000000) = true := ea
            have ea := of_decide_eq_true ea
            obtain ⟨fu', eX⟩ := powX (NF := NF) (v := v) (f := f) (p2 := p2) q36 hn n 0 (4294967296 + NF) (by omega) (by omega)
            have gX : gsX_X10_commonDivisor_1 NF (nI (100 ^ n)) (nI (q ^ n)) v f = nI d := euX 60 (100 ^ n) (q ^ n) 0 (4294967296 + NF) d hd (by omega) (by omega) (by omega) (by omega)
            have gY : gsY_X11_divisor_1 NF (nI (100 ^ n)) (nI (q ^ n)) v1 f1 w1 g = nI d := euY 60 (100 ^ n) (q ^ n) (4294967296 + NF) d hd (by omega) (by omega) (by omega)
            have eX : gsX_X10_odds_1_L5 NF (nI n) p2 v f (4294967296 + NF) 1 1 0 = _ := eX
            have d1 : (1 : Int32) ≤ nI d := lit_le (b := 1) rfl (by omega) (by omega)
            have X : gsX_X10_odds_1 NF (nI n) p2 v f = (if p2 = 0 then nI (q ^ n) / nI d else nI (100 ^ n) / nI d) := by
              simp only [gsX_X10_odds_1, if_neg c1, if_neg c2, if_neg c3, if_pos c4, eX]
              simp only [gsX_X10_odds_1_L5]
              rw [if_pos (nI_le (Nat.le_refl _) (by omega)), gX, if_pos d1]
            rw [X]
            have pY := powY (NF := NF) (v1 := v1) (f1 := f1) (w1 := w1) (g := g) (q := q) hn
            simp only [gsY_X11_odds_1, gsY_X11_isIn_1, if_neg c1, if_neg c2, if_neg c3, if_neg c5, ite11, if_true, q29, pY, gsY_X11_power_2, gsY_X11_power_3, gsY_X11_power_4, gsY_X11_power_5, gsY_X11_power_6]
            rcases (show n = 0 ∨ n = 1 ∨ n = 2 ∨ n = 3 ∨ n = 4 by omega) with e | e | e | e | e <;> subst e
            · rw [if_pos (show nI 0 = (0 : Int32) from rfl)]
              have gY : gsY_X11_divisor_1 NF 1 (nI (q ^ 0)) v1 f1 w1 g = nI d := gY
              rw [gY]
              rfl
            · rw [if_neg (show ¬ nI 1 = (0 : Int32) by decide), if_pos (show nI 1 = (1 : Int32) from rfl)]
              have gY : gsY_X11_divisor_1 NF 100 (nI (q ^ 1)) v1 f1 w1 g = nI d := gY
              rw [gY]
              rfl
            · rw [if_neg (show ¬ nI 2 = (0 : Int32) by decide), if_neg (show ¬ nI 2 = (1 : Int32) by decide), if_pos (show nI 2 = (2 : Int32) from rfl)]
              have gY : gsY_X11_divisor_1 NF 10000 (nI (q ^ 2)) v1 f1 w1 g = nI d := gY
              rw [gY]
              rfl
            · rw [if_neg (show ¬ nI 3 = (0 : Int32) by decide), if_neg (show ¬ nI 3 = (1 : Int32) by decide), if_neg (show ¬ nI 3 = (2 : Int32) by decide), if_pos (show nI 3 = (3 : Int32) from rfl)]
              have gY : gsY_X11_divisor_1 NF 1000000 (nI (q ^ 3)) v1 f1 w1 g = nI d := gY
              rw [gY]
              rfl
            · rw [if_neg (show ¬ nI 4 = (0 : Int32) by decide), if_neg (show ¬ nI 4 = (1 : Int32) by decide), if_neg (show ¬ nI 4 = (2 : Int32) by decide), if_neg (show ¬ nI 4 = (3 : Int32) by decide), if_pos (show nI 4 = (4 : Int32) from rfl)]
              have gY : gsY_X11_divisor_1 NF 100000000 (nI (q ^ 4)) v1 f1 w1 g = nI d := gY
              rw [gY]
              rfl
        · have c5 : 1 < p2 := (fa_lt _ _).mpr (by
            have a : ¬ p2.toInt ≤ (1 : Int32).toInt := fun z => c4 ((fa_le _ _).mpr z)
            omega)
          simp only [gsX_X10_odds_1, gsY_X11_odds_1, gsY_X11_isIn_1, if_neg c1, if_neg c2, if_neg c3, if_neg c4, if_pos c5, ite01, ite11, if_true]
end
end
