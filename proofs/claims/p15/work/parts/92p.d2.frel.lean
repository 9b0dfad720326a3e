section
variable {NF : Nat} {v : Nat → Int32} {f : Nat → Nat → Int32} {v1 : Nat → Int32} {f1 : Nat → Nat → Int32} {w1 : Int64} {g : Nat → Int64}
abbrev XKI : List Nat := [18, 31, 32, 33, 34, 35, 36, 1, 7, 8, 0, 41, 20, 21, 22, 23]
abbrev XKF : List Nat := [9, 10, 11, 12, 0, 23, 24, 25, 26, 15, 16, 17]
abbrev YKI : List Nat := [9, 16, 24, 25, 26, 27, 28, 29, 0, 1, 2, 38, 39, 35, 36]
abbrev YKF : List Nat := [4, 5, 16, 17, 18, 19, 20, 21, 22, 0, 30, 31, 32, 33, 23, 25, 36, 37]
theorem FREL.cp {v' : Nat → Int32} {f' : Nat → Nat → Int32} {v1' : Nat → Int32} {f1' : Nat → Nat → Int32} (h : FREL v f v1 f1) (r : R3 v' f' v1' f1') (a : ∀ k, ([31, 32, 20, 21, 22, 23] : List Nat).contains k = true → v' k = v k) (b : ∀ k, ([9, 10, 15, 16, 17] : List Nat).contains k = true → f' k = f k) (c : ∀ k, ([24, 25, 35, 36] : List Nat).contains k = true → v1' k = v1 k) (d : ∀ k, ([16, 17, 18, 19, 20, 21, 22, 23, 25, 36, 37] : List Nat).contains k = true → f1' k = f1 k) : FREL v' f' v1' f1' := by
  obtain ⟨hr, A, B, a1, a2, a3, b1, b2, b3, sm, sc, nw, ac, bx⟩ := h
  refine ⟨r, A, B, (a 31 rfl).trans a1, (c 24 rfl).trans a2, a3, (a 32 rfl).trans b1, (c 25 rfl).trans b2, b3, ?_, ?_, ?_, ?_, ?_⟩
  · unfold STM; rw [b 9 rfl, d 16 rfl, d 17 rfl, d 18 rfl]; exact sm
  · unfold STC; rw [b 10 rfl, d 19 rfl, d 20 rfl, d 21 rfl, d 22 rfl]; exact sc
  · rw [b 15 rfl, d 23 rfl]; exact nw
  · unfold ACT; rw [a 21 rfl, a 22 rfl, a 23 rfl, c 35 rfl, c 36 rfl, b 15 rfl, b 17 rfl, d 25 rfl]; exact ac
  · unfold BOX; rw [a 20 rfl, b 16 rfl, d 36 rfl, d 37 rfl]; exact bx
theorem FREL.keep {v' : Nat → Int32} {f' : Nat → Nat → Int32} {v1' : Nat → Int32} {f1' : Nat → Nat → Int32} (h : FREL v f v1 f1) (a : ∀ k, XKI.contains k = true → v' k = v k) (b : ∀ k, XKF.contains k = true → f' k = f k) (c : ∀ k, YKI.contains k = true → v1' k = v1 k) (d : ∀ k, YKF.contains k = true → f1' k = f1 k) : FREL v' f' v1' f1' :=
  h.cp (h.1.keep (fun k hk => a k (kx_in (by decide) hk)) (fun k hk => b k (kx_in (by decide) hk)) (fun k hk => c k (kx_in (by decide) hk)) (fun k hk => d k (kx_in (by decide) hk)))
    (fun k hk => a k (kx_in (by decide) hk)) (fun k hk => b k (kx_in (by decide) hk)) (fun k hk => c k (kx_in (by decide) hk)) (fun k hk => d k (kx_in (by decide) hk))
theorem FREL.act {F F1 F2 : Nat → Nat → Int32} {V' : Nat → Int32} {F' : Nat → Nat → Int32} {V1' : Nat → Int32} {F1' : Nat → Nat → Int32} (h : FREL v f v1 f1) (hF : ∀ q, q ≠ 13 → q ≠ 14 → q ≠ 15 → F q = f q) (hF1 : ∀ q, q ≠ 24 → F1 q = f1 q) (e : gsX_X5_keepAct_1 NF v F = (V', F')) (e' : gsY_X11_act_1 NF v1 F1 w1 g = (V1', F1', w1, g)) (h2 : ∀ q, q ≠ 7 → q ≠ 8 → q ≠ 23 → q ≠ 24 → F2 q = F1' q) (hn : ∀ a b, v 31 = nI a → v1 24 = nI a → v 32 = nI b → v1 25 = nI b → a ≤ 6 → b ≤ 6 → STM f f1 a → STC f f1 b → NWR 999 a b (f 15) (f1 23) → NWR 999 a b (F 15) (F2 23)) : FREL V' F' V1' F2 := by
  obtain ⟨hr, a, b, a1, a2, a3, b1, b2, b3, sm, sc, nw, ac, bx⟩ := h
  obtain ⟨s1, s2, s3, s4, s5, s6⟩ := ACT.step a3 b3 ac nw (hF 17 (by decide) (by decide) (by decide)) (hF1 25 (by decide)) (hF1 23 (by decide)) e e' (h2 25 (by decide) (by decide) (by decide) (by decide))
  have X : ∀ q, q ≠ 13 → q ≠ 14 → q ≠ 15 → q ≠ 17 → F' q = f q := fun q q1 q2 q3 q4 => (s3 q q4).trans (hF q q1 q2 q3)
  have Y : ∀ q, q ≠ 7 → q ≠ 8 → q ≠ 23 → q ≠ 24 → q ≠ 25 → F2 q = f1 q := fun q q1 q2 q3 q4 q5 => (h2 q q1 q2 q3 q4).trans ((s5 q q4 q5).trans (hF1 q q4))
  refine ⟨hr.keep (fun k hk => s2 k (kx_ne hk rfl) (kx_ne hk rfl) (kx_ne hk rfl)) (fun k hk => X k (kx_ne hk rfl) (kx_ne hk rfl) (kx_ne hk rfl) (kx_ne hk rfl)) (fun k hk => s4 k (kx_ne hk rfl) (kx_ne hk rfl)) (fun k hk => Y k (kx_ne hk rfl) (kx_ne hk rfl) (kx_ne hk rfl) (kx_ne hk rfl) (kx_ne hk rfl)), a, b, (s2 31 (by decide) (by decide) (by decide)).trans a1, (s4 24 (by decide) (by decide)).trans a2, a3, (s2 32 (by decide) (by decide) (by decide)).trans b1, (s4 25 (by decide) (by decide)).trans b2, b3, ?_, ?_, ?_, s1, ?_⟩
  · unfold STM; rw [X 9 (by decide) (by decide) (by decide) (by decide), Y 16 (by decide) (by decide) (by decide) (by decide) (by decide), Y 17 (by decide) (by decide) (by decide) (by decide) (by decide), Y 18 (by decide) (by decide) (by decide) (by decide) (by decide)]; exact sm
  · unfold STC; rw [X 10 (by decide) (by decide) (by decide) (by decide), Y 19 (by decide) (by decide) (by decide) (by decide) (by decide), Y 20 (by decide) (by decide) (by decide) (by decide) (by decide), Y 21 (by decide) (by decide) (by decide) (by decide) (by decide), Y 22 (by decide) (by decide) (by decide) (by decide) (by decide)]; exact sc
  · rw [s3 15 (by decide)]; exact hn a b a1 a2 b1 b2 a3 b3 sm sc nw
  · obtain ⟨T, t1, t2, t3⟩ := bx
    refine ⟨T, t1, (s2 20 (by decide) (by decide) (by decide)).trans t2, fun i hi => ?_⟩
    rw [X 16 (by decide) (by decide) (by decide) (by decide), Y 36 (by decide) (by decide) (by decide) (by decide) (by decide), Y 37 (by decide) (by decide) (by decide) (by decide) (by decide)]
    exact t3 i hi
theorem setNB {x y : Nat → Int32} {i k n : Nat} {z : Int32} (h : x k = y k ∧ NBx n (x k)) (hz : NBx n z) : upd x i z k = upd y i z k ∧ NBx n (upd x i z k) := by
  by_cases e : k = i
  · rw [e, pk_us, pk_us]; exact ⟨rfl, hz⟩
  · rw [pk_un e, pk_un e]; exact h
theorem NWR.set {D a b c o : Nat} {x y : Nat → Int32} {z : Int32} (h : NWR D a b x y) (ha : a ≤ 6) (hb : b ≤ 6) (ho : o = 12 ∨ o = 18 ∨ o = 24 ∨ o = 30) (hc : c < b) (hz : NBx 99 z) : NWR D a b (upd x (o + c) z) (upd y (o + c) z) := by
  obtain ⟨h1, h2, ⟨T, t1, t2, t3⟩, h4, h5, h6⟩ := h
  refine ⟨fun m hm => ?_, fun k hk => ?_, ⟨T, t1, ?_, fun k hk => ?_⟩, ?_, ?_, fun m m' hm hm' => ?_⟩
  · rw [pk_un (by omega), pk_un (by omega), pk_un (by omega), pk_un (by omega)]; exact h1 m hm
  · obtain ⟨q1, q2, q3, q4⟩ := h2 k hk
    exact ⟨setNB q1 hz, setNB q2 hz, setNB q3 hz, setNB q4 hz⟩
  · rw [pk_un (by omega)]; exact t2
  · rw [pk_un (by omega)]; exact t3 k hk
  · rw [pk_un (by omega), pk_un (by omega)]; exact h4
  · rw [pk_un (by omega), pk_un (by omega)]; exact h5
  · rw [pk_un (by omega), pk_un (by omega)]; exact h6 m m' hm hm'
theorem NWR.wear {D a b m : Nat} {x y : Nat → Int32} {z : Int32} (h : NWR D a b x y) (ha : a ≤ 6) (hb : b ≤ 6) (hm : m < a) (hz : z = -1 ∨ ((∃ c, c < b ∧ z = nI c) ∧ ∀ m', m' < a → m' ≠ m → ¬ x (6 + m') = z)) : NWR D a b (upd x (6 + m) z) (upd y (6 + m) z) := by
  obtain ⟨h1, h2, ⟨T, t1, t2, t3⟩, h4, h5, h6⟩ := h
  refine ⟨fun k hk => ?_, fun k hk => ?_, ⟨T, t1, ?_, fun k hk => ?_⟩, ?_, ?_, fun k k' hk hk' => ?_⟩
  · obtain ⟨q1, q2, q3, q4⟩ := h1 k hk
    rw [pk_un (show k ≠ 6 + m by omega), pk_un (show k ≠ 6 + m by omega)]
    by_cases e : k = m
    · rw [e, pk_us, pk_us]
      rw [e] at q1 q2
      exact ⟨q1, q2, rfl, hz.imp id (fun q => q.1)⟩
    · rw [pk_un (show 6 + k ≠ 6 + m by omega), pk_un (show 6 + k ≠ 6 + m by omega)]
      exact ⟨q1, q2, q3, q4⟩
  · rw [pk_un (by omega), pk_un (by omega), pk_un (by omega), pk_un (by omega), pk_un (by omega), pk_un (by omega), pk_un (by omega), pk_un (by omega)]; exact h2 k hk
  · rw [pk_un (by omega)]; exact t2
  · rw [pk_un (by omega)]; exact t3 k hk
  · rw [pk_un (by omega), pk_un (by omega)]; exact h4
  · rw [pk_un (by omega), pk_un (by omega)]; exact h5
  · by_cases e : k = m
    · by_cases e' : k' = m
      · intro _ _; omega
      · rw [e, pk_us, pk_un (show 6 + k' ≠ 6 + m by omega)]
        intro q1 q2
        rcases hz with hz | ⟨_, hz⟩
        · exact absurd hz q2
        · exact absurd q1.symm (hz k' hk' e')
    · rw [pk_un (show 6 + k ≠ 6 + m by omega)]
      by_cases e' : k' = m
      · rw [e', pk_us]
        intro q1 q2
        rcases hz with hz | ⟨_, hz⟩
        · rw [hz] at q1; exact absurd q1 q2
        · exact absurd q1 (hz k hk e)
      · rw [pk_un (show 6 + k' ≠ 6 + m by omega)]
        exact h6 k k' hk hk'
theorem bitT : ∀ T, T < 64 → ∀ c, c < 6 → ((nI T >>> (nI c &&& 31)) &&& 1 = nI (T / 2 ^ c % 2)) ∧ (T / 2 ^ c % 2 = 0 → nI T ||| ((1 : Int32) <<< (nI c &&& 31)) = nI (T + 2 ^ c) ∧ T + 2 ^ c < 64 ∧ ∀ k, k < 6 → (T + 2 ^ c) / 2 ^ k % 2 = if k = c then 1 else T / 2 ^ k % 2) := by decide +kernel
theorem NWR.turn {D a b c T : Nat} {x y : Nat → Int32} (h : NWR D a b x y) (ha : a ≤ 6) (hb : b ≤ 6) (hc : c < b) (hT : T < 64) (hy : y 36 = nI T) (h0 : T / 2 ^ c % 2 = 0) : NWR D a b (upd x (36 + c) 1) (upd y 36 (nI (T + 2 ^ c))) := by
  obtain ⟨h1, h2, ⟨T', t1, t2, t3⟩, h4, h5, h6⟩ := h
  have eT : T' = T := (nI_eq (by omega) (by omega)).mp (t2.symm.trans hy)
  subst eT
  obtain ⟨_, q⟩ := bitT T' t1 c (by omega)
  obtain ⟨_, q2, q3⟩ := q h0
  refine ⟨fun m hm => ?_, fun k hk => ?_, ⟨T' + 2 ^ c, q2, pk_us, fun k hk => ?_⟩, ?_, ?_, fun m m' hm hm' => ?_⟩
  · rw [pk_un (by omega), pk_un (by omega), pk_un (by omega), pk_un (by omega)]; exact h1 m hm
  · rw [pk_un (by omega), pk_un (by omega), pk_un (by omega), pk_un (by omega), pk_un (by omega), pk_un (by omega), pk_un (by omega), pk_un (by omega)]; exact h2 k hk
  · rw [q3 k (by omega)]
    by_cases e : k = c
    · rw [e, pk_us, if_pos rfl]; rfl
    · rw [pk_un (by omega), if_neg e]; exact t3 k hk
  · rw [pk_un (by omega), pk_un (by omega)]; exact h4
  · rw [pk_un (by omega), pk_un (by omega)]; exact h5
  · rw [pk_un (by omega), pk_un (by omega)]; exact h6 m m' hm hm'
theorem xWearer {a : Nat} {q : Int32} (h : v 31 = nI a) (ha : a ≤ 6) : (∃ m, m < a ∧ f 15 (6 + m) = q ∧ gsX_X1_wearer_1 NF q v f = nI m) ∨ ((∀ m, m < a → ¬ f 15 (6 + m) = q) ∧ gsX_X1_wearer_1 NF q v f = -1) := by
  refine lpQ (S := Unit) (fun fu i _ => gsX_X1_wearer_1_L1 NF q v f fu i) (fun r => (∃ m, m < a ∧ f 15 (6 + m) = q ∧ r = nI m) ∨ ((∀ m, m < a → ¬ f 15 (6 + m) = q) ∧ r = -1)) (fun j _ => ∀ m, m < j → ¬ f 15 (6 + m) = q) a ?_ ?_ a 0 (4294967296 + NF) () (by omega) (by omega) (fun m hm => absurd hm (Nat.not_lt_zero _))
  · intro fu j s hj hs
    have e : gsX_X1_wearer_1_L1 NF q v f (fu + 1) (nI j) = (if f 15 (6 + j) = q then nI j else gsX_X1_wearer_1_L1 NF q v f fu (nI (j + 1))) := by
      simp only [gsX_X1_wearer_1_L1, h]
      rw [if_neg (show ¬ nI a ≤ nI j from nI_ge hj (by omega)), xWears1 h ha hj, nI_1]
    by_cases c : f 15 (6 + j) = q
    · rw [if_pos c] at e
      exact Or.inr (Or.inl ⟨j, hj, c, e⟩)
    · rw [if_neg c] at e
      refine Or.inl ⟨(), fun m hm => ?_, e⟩
      by_cases em : m = j
      · rw [em]; exact c
      · exact hs m (by omega)
  · intro fu s hs
    refine Or.inr ⟨hs, ?_⟩
    show gsX_X1_wearer_1_L1 NF q v f (fu + 1) (nI a) = -1
    simp only [gsX_X1_wearer_1_L1, h]
    rw [if_pos (nI_le (Nat.le_refl _) (by omega))]
theorem yWearer {a : Nat} {q : Int32} (h : v1 24 = nI a) (ha : a ≤ 6) : (∃ m, m < a ∧ f1 24 (6 + m) = q ∧ gsY_X11_wearer_1 NF q v1 f1 w1 g = nI m) ∨ ((∀ m, m < a → ¬ f1 24 (6 + m) = q) ∧ gsY_X11_wearer_1 NF q v1 f1 w1 g = -1) := by
  refine lpQ (S := Int32) (fun fu i s => gsY_X11_wearer_1_L1 NF q v1 f1 fu s i) (fun r => (∃ m, m < a ∧ f1 24 (6 + m) = q ∧ r = nI m) ∨ ((∀ m, m < a → ¬ f1 24 (6 + m) = q) ∧ r = -1)) (fun j s => (∃ m, m < j ∧ f1 24 (6 + m) = q ∧ s = nI m) ∨ ((∀ m, m < j → ¬ f1 24 (6 + m) = q) ∧ s = -1)) a ?_ ?_ a 0 (4294967296 + NF) (-1) (by omega) (by omega) (Or.inr ⟨fun m hm => absurd hm (Nat.not_lt_zero _), rfl⟩)
  · intro fu j s hj hs
    have e : gsY_X11_wearer_1_L1 NF q v1 f1 (fu + 1) s (nI j) = (if f1 24 (6 + j) = q then gsY_X11_wearer_1_L1 NF q v1 f1 fu (nI j) (nI (j + 1)) else gsY_X11_wearer_1_L1 NF q v1 f1 fu s (nI (j + 1))) := by
      simp only [gsY_X11_wearer_1_L1, h]
      rw [if_neg (show ¬ nI a ≤ nI j from nI_ge hj (by omega)), show (6 : Int32) + nI j = nI (6 + j) from nI_add 6 j, nI_clamp (by omega), nI_1]
    by_cases c : f1 24 (6 + j) = q
    · rw [if_pos c] at e
      exact Or.inl ⟨nI j, Or.inl ⟨j, by omega, c, rfl⟩, e⟩
    · rw [if_neg c] at e
      refine Or.inl ⟨s, ?_, e⟩
      rcases hs with ⟨m, hm, q1, q2⟩ | ⟨q1, q2⟩
      · exact Or.inl ⟨m, by omega, q1, q2⟩
      · refine Or.inr ⟨fun m hm => ?_, q2⟩
        by_cases em : m = j
        · rw [em]; exact c
        · exact q1 m (by omega)
  · intro fu s hs
    have e : gsY_X11_wearer_1_L1 NF q v1 f1 (fu + 1) s (nI a) = s := by
      simp only [gsY_X11_wearer_1_L1, h]
      rw [if_pos (nI_le (Nat.le_refl _) (by omega))]
    show (∃ m, m < a ∧ f1 24 (6 + m) = q ∧ gsY_X11_wearer_1_L1 NF q v1 f1 (fu + 1) s (nI a) = nI m) ∨ ((∀ m, m < a → ¬ f1 24 (6 + m) = q) ∧ gsY_X11_wearer_1_L1 NF q v1 f1 (fu + 1) s (nI a) = -1)
    rw [e]
    exact hs
theorem m1_lt : (-1 : Int32) < 0 := by decide
theorem nI_nm1 {n : Nat} (h : n < 2 ^ 31) : ¬ nI n = -1 := fun z => by
  have z' := congrArg Int32.toInt z
  rw [nI_toInt h] at z'
  have : (-1 : Int32).toInt = -1 := by decide
  omega
section
variable {r r' : Int32} {u : (Nat → Int32) × (Nat → Nat → Int32)} {u' : (Nat → Int32) × (Nat → Nat → Int32) × Int64 × (Nat → Int64)}
theorem FREL.don {p1 p2 : Int32} (h : FREL v f v1 f1) (e : gsX_X10_don_1 NF p1 p2 v f = (r, u)) (e' : gsY_X11_don_1 NF p1 p2 v1 f1 w1 g = (r', u')) : r = r' ∧ FREL u.1 u.2 u'.1 u'.2.1 := by
  have hh := h
  obtain ⟨hr, a, b, a1, a2, a3, b1, b2, b3, sm, sc, nw, ac, bx⟩ := h
  obtain ⟨A, f1', f2', f3'⟩ := yFill (NF := NF) (V := v1) (F0 := f1) (W := w1) (G := g)
  have hA : FREL v f v1 A := hh.keep (fun _ _ => rfl) (fun _ _ => rfl) (fun _ _ => rfl) (fun k hk => f1' k (kx_ne hk rfl))
  have bad : gsX_X10_don_1 NF p1 p2 v f = (-2, v, f) → gsY_X11_don_1 NF p1 p2 v1 f1 w1 g = (-2, v1, A, w1, g) → r = r' ∧ FREL u.1 u.2 u'.1 u'.2.1 := fun x y => by
    rw [x] at e
    rw [y] at e'
    cases e; cases e'
    exact ⟨rfl, hA⟩
  rcases in_cases p1 a with ⟨m, hm, rfl⟩ | n1
  · have xm := xHasM1 (NF := NF) (F := f) a1 a3 hm
    have ym := yIsM1 (NF := NF) (F1 := A) (W := w1) (G := g) a2 a3 hm
    rcases in_cases p2 b with ⟨c, hc, rfl⟩ | n2
    · have xc := xHasC1 (NF := NF) (F := f) b1 b3 hc
      have yc := yIsC1 (NF := NF) (F1 := A) (W := w1) (G := g) b2 b3 hc
      have hw : ∀ k, k < a → A 24 (6 + k) = f 15 (6 + k) := fun k hk => (f2' (6 + k) (by omega)).trans (nw.1 k hk).2.2.1.symm
      by_cases none : ∀ k, k < a → ¬ f 15 (6 + k) = nI c
      · have xw : gsX_X1_wearer_1 NF (nI c) v f = -1 := by
          rcases xWearer (NF := NF) (f := f) (q := nI c) a1 a3 with ⟨k, k1, k2, _⟩ | ⟨_, q⟩
          · exact absurd k2 (none k k1)
          · exact q
        have yw : gsY_X11_wearer_1 NF (nI c) v1 A w1 g = -1 := by
          rcases yWearer (NF := NF) (f1 := A) (w1 := w1) (g := g) (q := nI c) a2 a3 with ⟨k, k1, k2, _⟩ | ⟨_, q⟩
          · exact absurd ((hw k k1).symm.trans k2) (none k k1)
          · exact q
        rcases hk : gsX_X5_keepAct_1 NF v (upd2 f 15 (upd (f 15) (6 + m) (nI c))) with ⟨V', F'⟩
        rcases ac with ⟨p, d, uu, hp, hdu, h21, h22, h23, h35, rest⟩
        obtain ⟨d', Y, Z, y1, y2, y3, y4, y5, y6, y7⟩ := yAct (NF := NF) (F := A) (W := w1) (G := g) h35 (by omega)
        have eX : gsX_X10_don_1 NF (nI m) (nI c) v f = (f 15 (6 + m), V', F') := by
          simp only [gsX_X10_don_1, xm, xc, xw, ite11, if_true, xWears1 (NF := NF) (F := f) a1 a3 hm, xSetW1 (NF := NF) (F := f) a1 a3 hm, hk]
        have eY : gsY_X11_don_1 NF (nI m) (nI c) v1 f1 w1 g = (Z 23 (6 + m), Y, upd2 Z 23 (upd (Z 23) (6 + m) (nI c)), w1, g) := by
          simp only [gsY_X11_don_1, f3', ym, yc, yw, ite11, if_true, if_pos m1_lt, y1, show (6 : Int32) + nI m = nI (6 + m) from nI_add 6 m, nI_clamp (show 6 + m < 2 ^ 31 by omega)]
        rw [eX] at e
        rw [eY] at e'
        cases e; cases e'
        have z23 : Z 23 = f1 23 := (y5 23 (by decide) (by decide)).trans (f1' 23 (by decide))
        refine ⟨?_, hh.act (F2 := upd2 Z 23 (upd (Z 23) (6 + m) (nI c))) (fun q _ _ h15 => u2n h15) (fun q hq => f1' q hq) hk y1 (fun q _ _ h23 _ => u2n h23) (fun a' b' a1' _ b1' _ a3' b3' _ _ nw' => ?_)⟩
        · rw [z23]; exact (nw.1 m hm).2.2.1
        · have ea : a' = a := (nI_eq (by omega) (by omega)).mp (a1'.symm.trans a1)
          have eb : b' = b := (nI_eq (by omega) (by omega)).mp (b1'.symm.trans b1)
          subst ea eb
          show NWR 999 a' b' (upd (f 15) (6 + m) (nI c)) (upd (Z 23) (6 + m) (nI c))
          rw [z23]
          exact nw'.wear a3' b3' hm (Or.inr ⟨⟨c, hc, rfl⟩, fun k hk _ => none k hk⟩)
      · obtain ⟨k0, hk0, ek0⟩ : ∃ k, k < a ∧ f 15 (6 + k) = nI c := by
          apply Classical.byContradiction
          intro z
          exact none (fun k hk q => z ⟨k, hk, q⟩)
        have xw : ∃ k, k < a ∧ gsX_X1_wearer_1 NF (nI c) v f = nI k := by
          rcases xWearer (NF := NF) (f := f) (q := nI c) a1 a3 with ⟨k, k1, _, k3⟩ | ⟨q, _⟩
          · exact ⟨k, k1, k3⟩
          · exact absurd ek0 (q k0 hk0)
        have yw : ∃ k, k < a ∧ gsY_X11_wearer_1 NF (nI c) v1 A w1 g = nI k := by
          rcases yWearer (NF := NF) (f1 := A) (w1 := w1) (g := g) (q := nI c) a2 a3 with ⟨k, k1, _, k3⟩ | ⟨q, _⟩
          · exact ⟨k, k1, k3⟩
          · exact absurd ((hw k0 hk0).trans ek0) (q k0 hk0)
        obtain ⟨k, k1, k2⟩ := xw
        obtain ⟨k', k1', k2'⟩ := yw
        refine bad ?_ ?_
        · simp only [gsX_X10_don_1, xm, xc, k2, ite11, if_true, if_neg (nI_nm1 (show k < 2 ^ 31 by omega))]
        · simp only [gsY_X11_don_1, f3', ym, yc, k2', ite11, if_true, if_neg (nI_pos (show k' < 2 ^ 31 by omega))]
    · refine bad ?_ ?_
      · simp only [gsX_X10_don_1, xm, xHasC0 (NF := NF) (F := f) b1 n2, ite11, if_true, ite01]
      · simp only [gsY_X11_don_1, f3', ym, yIsC0 (NF := NF) (F1 := A) (W := w1) (G := g) b2 b3 n2, ite11, if_true, ite01]
  · refine bad ?_ ?_
    · simp only [gsX_X10_don_1, xHasM0 (NF := NF) (F := f) a1 n1, ite01]
    · simp only [gsY_X11_don_1, f3', yIsM0 (NF := NF) (F1 := A) (W := w1) (G := g) a2 a3 n1, ite01]
theorem FREL.doff {p1 : Int32} (h : FREL v f v1 f1) (e : gsX_X10_doff_1 NF p1 v f = (r, u)) (e' : gsY_X11_doff_1 NF p1 v1 f1 w1 g = (r', u')) : r = r' ∧ FREL u.1 u.2 u'.1 u'.2.1 := by
  have hh := h
  obtain ⟨hr, a, b, a1, a2, a3, b1, b2, b3, sm, sc, nw, ac, bx⟩ := h
  have bad : gsX_X10_doff_1 NF p1 v f = (-1, v, f) → gsY_X11_doff_1 NF p1 v1 f1 w1 g = (-1, v1, f1, w1, g) → r = r' ∧ FREL u.1 u.2 u'.1 u'.2.1 := fun x y => by
    rw [x] at e
    rw [y] at e'
    cases e; cases e'
    exact ⟨rfl, hh⟩
  rcases in_cases p1 a with ⟨m, hm, rfl⟩ | n1
  · have ym := yIsM1 (NF := NF) (F1 := f1) (W := w1) (G := g) a2 a3 hm
    have xw := xWears1 (NF := NF) (F := f) a1 a3 hm
    have s6 : (6 : Int32) + nI m = nI (6 + m) := nI_add 6 m
    have c6 : (nI (6 + m)).toNatClampNeg = 6 + m := nI_clamp (by omega)
    obtain ⟨_, _, q3, q4⟩ := nw.1 m hm
    by_cases z : f 15 (6 + m) = -1
    · refine bad ?_ ?_
      · simp only [gsX_X10_doff_1, xw, if_pos z]
      · simp only [gsY_X11_doff_1, ym, ite11, if_true, s6, c6, ← q3, z, if_neg (show ¬ (0 : Int32) ≤ -1 by decide)]
    · obtain ⟨c, hc, ec⟩ := q4.resolve_left z
      rcases hk : gsX_X5_keepAct_1 NF v (upd2 f 15 (upd (f 15) (6 + m) (-1))) with ⟨V', F'⟩
      rcases ac with ⟨p, d, uu, hp, hdu, h21, h22, h23, h35, rest⟩
      obtain ⟨d', Y, Z, y1, y2, y3, y4, y5, y6, y7⟩ := yAct (NF := NF) (F := f1) (W := w1) (G := g) h35 (by omega)
      have eX : gsX_X10_doff_1 NF (nI m) v f = (f 15 (6 + m), V', F') := by
        simp only [gsX_X10_doff_1, xw, if_neg z, xSetW1 (NF := NF) (F := f) a1 a3 hm, hk]
      have eY : gsY_X11_doff_1 NF (nI m) v1 f1 w1 g = (Z 23 (6 + m), Y, upd2 Z 23 (upd (Z 23) (6 + m) (-1)), w1, g) := by
        simp only [gsY_X11_doff_1, ym, ite11, if_true, s6, c6, if_pos (show (0 : Int32) ≤ f1 23 (6 + m) by rw [← q3, ec]; exact nI_pos' (by omega)), y1]
      rw [eX] at e
      rw [eY] at e'
      cases e; cases e'
      have z23 : Z 23 = f1 23 := y5 23 (by decide) (by decide)
      refine ⟨by rw [z23]; exact q3, hh.act (F2 := upd2 Z 23 (upd (Z 23) (6 + m) (-1))) (fun q _ _ h15 => u2n h15) (fun q _ => rfl) hk y1 (fun q _ _ h23 _ => u2n h23) (fun a' b' a1' _ b1' _ a3' b3' _ _ nw' => ?_)⟩
      have ea : a' = a := (nI_eq (by omega) (by omega)).mp (a1'.symm.trans a1)
      subst ea
      show NWR 999 a' b' (upd (f 15) (6 + m) (-1)) (upd (Z 23) (6 + m) (-1))
      rw [z23]
      exact nw'.wear a3' b3' hm (Or.inl rfl)
  · refine bad ?_ ?_
    · simp only [gsX_X10_doff_1, xWears0 (NF := NF) (F := f) a1 n1, if_true]
    · simp only [gsY_X11_doff_1, yIsM0 (NF := NF) (F1 := f1) (W := w1) (G := g) a2 a3 n1, ite01]
theorem FREL.hem {p1 p2 : Int32} (h : FREL v f v1 f1) (e : gsX_X10_hem_1 NF p1 p2 v f = (r, u)) (e' : gsY_X11_hem_1 NF p1 p2 v1 f1 w1 g = (r', u')) : r = r' ∧ FREL u.1 u.2 u'.1 u'.2.1 := by
  have hh := h
  obtain ⟨hr, a, b, a1, a2, a3, b1, b2, b3, sm, sc, nw, ac, bx⟩ := h
  have bad : gsX_X10_hem_1 NF p1 p2 v f = (-1, v, f) → gsY_X11_hem_1 NF p1 p2 v1 f1 w1 g = (-1, v1, f1, w1, g) → r = r' ∧ FREL u.1 u.2 u'.1 u'.2.1 := fun x y => by
    rw [x] at e
    rw [y] at e'
    cases e; cases e'
    exact ⟨rfl, hh⟩
  rcases in_cases p1 b with ⟨c, hc, rfl⟩ | n1
  · have yc := yIsC1 (NF := NF) (F1 := f1) (W := w1) (G := g) b2 b3 hc
    have xp : gsX_X1_part_1 NF 0 (nI c) v f = f 15 (12 + c) := xPart1 (NF := NF) (F := f) (p := 0) b1 b3 hc (by decide)
    have s12 : (12 : Int32) + nI c = nI (12 + c) := nI_add 12 c
    have c12 : (nI (12 + c)).toNatClampNeg = 12 + c := nI_clamp (by omega)
    obtain ⟨⟨q1, S, hS, q2⟩, _, _, _⟩ := nw.2.1 c hc
    by_cases c1 : p2 < 1
    · refine bad ?_ ?_
      · simp only [gsX_X10_hem_1, if_pos c1]
      · simp only [gsY_X11_hem_1, yc, ite11, if_true, gsY_X11_isIn_1, if_pos c1, ite01]
    · by_cases c2 : p2 ≤ f 15 (12 + c)
      · have nlt : ¬ p2 < 0 := fun z => by
          have z' := (fa_lt _ _).mp z
          have c1' : ¬ p2.toInt < (1 : Int32).toInt := fun q => c1 ((fa_lt _ _).mpr q)
          have z0 : (0 : Int32).toInt = 0 := by decide
          have z1 : (1 : Int32).toInt = 1 := by decide
          omega
        obtain ⟨P, hP, rfl⟩ := nI_of nlt
        rw [q2] at c2
        have hPS : P ≤ S := (nI_leI hP (by omega)).mp c2
        have sub : nI S - nI P = nI (S - P) := nI_subI hPS
        have yn : ¬ nI S < nI P := nI_nlt hPS (by omega)
        rcases hk : gsX_X5_keepAct_1 NF v (upd2 f 15 (upd (f 15) (12 + c) (nI (S - P)))) with ⟨V', F'⟩
        rcases ac with ⟨p, d, uu, hp, hdu, h21, h22, h23, h35, rest⟩
        obtain ⟨d', Y, Z, y1, y2, y3, y4, y5, y6, y7⟩ := yAct (NF := NF) (F := f1) (W := w1) (G := g) h35 (by omega)
        have z23 : Z 23 = f1 23 := y5 23 (by decide) (by decide)
        have xs : gsX_X1_setPart_1 NF 0 (nI c) (nI (S - P)) v f = (v, upd2 f 15 (upd (f 15) (12 + c) (nI (S - P)))) := xSetP1 (NF := NF) (F := f) (p := 0) b1 b3 hc (by decide)
        have eX : gsX_X10_hem_1 NF (nI c) (nI P) v f = (nI (S - P), V', F') := by
          simp only [gsX_X10_hem_1, xp, q2, if_neg c1, if_pos c2, sub, xs, hk]
        have eY : gsY_X11_hem_1 NF (nI c) (nI P) v1 f1 w1 g = (nI (S - P), Y, upd2 Z 23 (upd (Z 23) (12 + c) (nI (S - P))), w1, g) := by
          simp only [gsY_X11_hem_1, yc, ite11, if_true, gsY_X11_isIn_1, if_neg c1, s12, c12, if_neg yn, y1, z23, ← q1, q2, sub]
          rw [u2s, pk_us]
        rw [eX] at e
        rw [eY] at e'
        cases e; cases e'
        refine ⟨rfl, hh.act (F2 := upd2 Z 23 (upd (Z 23) (12 + c) (nI (S - P)))) (fun q _ _ h15 => u2n h15) (fun q _ => rfl) hk y1 (fun q _ _ h23 _ => u2n h23) (fun a' b' a1' _ b1' _ a3' b3' _ _ nw' => ?_)⟩
        have eb : b' = b := (nI_eq (by omega) (by omega)).mp (b1'.symm.trans b1)
        subst eb
        show NWR 999 a' b' (upd (f 15) (12 + c) (nI (S - P))) (upd (Z 23) (12 + c) (nI (S - P)))
        rw [z23]
        exact nw'.set a3' b3' (Or.inl rfl) hc ⟨S - P, by omega, rfl⟩
      · refine bad ?_ ?_
        · simp only [gsX_X10_hem_1, xp, if_neg c1, if_neg c2]
        · have c2' : f1 23 (12 + c) < p2 := by
            rw [← q1]
            refine (fa_lt _ _).mpr ?_
            have z : ¬ p2.toInt ≤ (f 15 (12 + c)).toInt := fun q => c2 ((fa_le _ _).mpr q)
            omega
          simp only [gsY_X11_hem_1, yc, ite11, if_true, gsY_X11_isIn_1, if_neg c1, s12, c12, if_pos c2', ite01]
  · refine bad ?_ ?_
    · simp only [gsX_X10_hem_1, xPart0 (NF := NF) (F := f) b1 n1]
      by_cases c1 : p2 < 1
      · rw [if_pos c1]
      · rw [if_neg c1, if_neg (fun z => c1 ((fa_lt _ _).mpr (by
          have z' := (fa_le _ _).mp z
          have z0 : (0 : Int32).toInt = 0 := by decide
          have z1 : (1 : Int32).toInt = 1 := by decide
          omega)))]
    · simp only [gsY_X11_hem_1, yIsC0 (NF := NF) (F1 := f1) (W := w1) (G := g) b2 b3 n1, ite01]
end
end
