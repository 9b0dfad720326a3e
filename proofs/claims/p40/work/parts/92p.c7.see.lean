section
variable {NF : Nat} {v : Nat → Int32} {f : Nat → Nat → Int32} {v1 : Nat → Int32} {f1 : Nat → Nat → Int32} {w1 : Int64} {g : Nat → Int64}
theorem fr_u {N : List Nat} {j : Nat} {x : Int32} {a : Nat → Int32} (hj : N.contains j = false) : ∀ k, N.contains k = true → upd a j x k = a k := fun k hk => if_neg (fun z => by rw [z, hj] at hk; cases hk)
theorem fr_u2 {N : List Nat} {j : Nat} {x : Nat → Int32} {a : Nat → Nat → Int32} (hj : N.contains j = false) : ∀ k, N.contains k = true → upd2 a j x k = a k := fun k hk => if_neg (fun z => by rw [z, hj] at hk; cases hk)
theorem nI_subI {a b : Nat} (h : b ≤ a) : nI a - nI b = nI (a - b) := by
  have e : nI a = nI (a - b) + nI b := by rw [nI_add, Nat.sub_add_cancel h]
  rw [e, Int32.add_sub_cancel]
theorem nI_divI {a b : Nat} (ha : a < 2 ^ 31) (hb : b < 2 ^ 31) : nI a / nI b = nI (a / b) := (Int32.ofNat_div ha hb).symm
theorem nI_modI {a b : Nat} (ha : a < 2 ^ 31) (hb : b < 2 ^ 31) : nI a - nI a / nI b * nI b = nI (a % b) := by
  rw [nI_divI ha hb, nI_mulI, nI_subI (Nat.div_mul_le_self a b)]
  congr 1
  have q := Nat.div_add_mod a b
  rw [Nat.mul_comm] at q
  omega
theorem in_cases (p : Int32) (K : Nat) : (∃ P, P < K ∧ p = nI P) ∨ ¬ ∃ P, P < K ∧ p = nI P := Classical.em _
theorem yIsIn1 {P K : Nat} (h : P < K) (hK : K < 2 ^ 31) : gsY_X11_isIn_1 NF (nI P) 0 (nI K - 1) v1 f1 w1 g = 1 := by
  simp only [gsY_X11_isIn_1]
  rw [if_neg (nI_pos (by omega)), show nI K - 1 = nI (K - 1) from nI_subI (b := 1) (by omega), if_neg (nI_nlt (by omega) (by omega))]
theorem yIsIn0 {p : Int32} {K : Nat} (h : ¬ ∃ P, P < K ∧ p = nI P) (hK : K < 2 ^ 31) : gsY_X11_isIn_1 NF p 0 (nI K - 1) v1 f1 w1 g = 0 := by
  simp only [gsY_X11_isIn_1]
  by_cases c1 : p < 0
  · rw [if_pos c1]
  · rw [if_neg c1]
    obtain ⟨P, hP, rfl⟩ := nI_of c1
    have hPK : K ≤ P := Nat.le_of_not_lt (fun z => h ⟨P, z, rfl⟩)
    by_cases c2 : K = 0
    · rw [c2, if_pos]
      show (-1 : Int32) < nI P
      rw [fa_lt, nI_toInt hP]
      show (-1 : Int) < _
      omega
    · rw [show nI K - 1 = nI (K - 1) from nI_subI (b := 1) (by omega), if_pos (nI_lt (by omega) hP)]
theorem R3.later {p r r' : Int32} {u : (Nat → Int32) × (Nat → Nat → Int32)} {u' : (Nat → Int32) × (Nat → Nat → Int32) × Int64 × (Nat → Int64)} (h : R3 v f v1 f1) (e : gsX_X10_later_1 NF p v f = (r, u)) (e' : gsY_X11_later_1 NF p v1 f1 w1 g = (r', u')) : r = r' ∧ R3 u.1 u.2 u'.1 u'.2.1 := by
  have h0 := h.2.2.1
  simp only [gsX_X10_later_1] at e
  simp only [gsY_X11_later_1, ← h0] at e'
  by_cases c1 : p < 0
  · rw [if_pos c1] at e e'
    cases e; cases e'
    exact ⟨rfl, h⟩
  · rw [if_neg c1] at e e'
    by_cases c2 : 1000 < p
    · rw [if_pos c2] at e e'
      cases e; cases e'
      exact ⟨rfl, h⟩
    · rw [if_neg c2] at e e'
      by_cases c3 : v 0 + p ≤ 100000
      · rw [if_pos c3] at e e'
        cases e; cases e'
        obtain ⟨r, s, _, k, k0, k1, k2, k3⟩ := h
        exact ⟨rfl, r.keep rfl rfl rfl rfl rfl rfl rfl rfl, s.keep (fr_u rfl) (fun _ _ => rfl) (fr_u rfl) (fun _ _ => rfl), rfl, k, k0, k1, k2, k3⟩
      · rw [if_neg c3] at e e'
        cases e; cases e'
        exact ⟨rfl, h⟩
theorem R3.seen {p1 p2 r r' : Int32} {u : (Nat → Int32) × (Nat → Nat → Int32)} {u' : (Nat → Int32) × (Nat → Nat → Int32) × Int64 × (Nat → Int64)} (h : R3 v f v1 f1) (e : gsX_X10_seen_1 NF p1 p2 v f = (r, u)) (e' : gsY_X11_seen_1 NF p1 p2 v1 f1 w1 g = (r', u')) : r = r' ∧ R3 u.1 u.2 u'.1 u'.2.1 := by
  have hh := h
  obtain ⟨hr, ⟨⟨A, B, a1, a2, a3, b1, b2, b3, am, bm⟩, ss, sf⟩, h0, K, k0, k1, k2, k3⟩ := h
  have bad : gsX_X10_seen_1 NF p1 p2 v f = (-1, v, f) → gsY_X11_seen_1 NF p1 p2 v1 f1 w1 g = (-1, v1, f1, w1, g) → r = r' ∧ R3 u.1 u.2 u'.1 u'.2.1 := fun x y => by
    rw [x] at e
    rw [y] at e'
    cases e; cases e'
    exact ⟨rfl, hh⟩
  by_cases c3 : p1 < 0
  · refine bad ?_ ?_
    · simp only [gsX_X10_seen_1, gsX_X8_tell_1, if_pos c3]
      by_cases x1 : v 31 = 0
      · rw [if_pos x1]
      · rw [if_neg x1]
        by_cases x2 : v 32 = 0
        · rw [if_pos x2]
        · rw [if_neg x2]
    · simp only [gsY_X11_seen_1, gsY_X11_isIn_1, if_pos c3, ite01]
  · by_cases c4 : 20 < p1
    · refine bad ?_ ?_
      · simp only [gsX_X10_seen_1, gsX_X8_tell_1, if_neg c3, if_pos c4]
        by_cases x1 : v 31 = 0
        · rw [if_pos x1]
        · rw [if_neg x1]
          by_cases x2 : v 32 = 0
          · rw [if_pos x2]
          · rw [if_neg x2]
      · simp only [gsY_X11_seen_1, gsY_X11_isIn_1, if_neg c3, if_pos c4, ite01]
    · by_cases c1 : nI A = 0
      · refine bad ?_ ?_
        · simp only [gsX_X10_seen_1, a1, if_pos c1]
        · simp only [gsY_X11_seen_1, gsY_X11_isIn_1, if_neg c3, if_neg c4, ite11, if_true, a2, if_pos c1]
      · by_cases c2 : nI B = 0
        · refine bad ?_ ?_
          · simp only [gsX_X10_seen_1, a1, if_neg c1, b1, if_pos c2]
          · simp only [gsY_X11_seen_1, gsY_X11_isIn_1, if_neg c3, if_neg c4, ite11, if_true, a2, if_neg c1, b2, if_pos c2]
        · by_cases c5 : K < 30
          · have x5 : nI K < (30 : Int32) := nI_lt (b := 30) c5 (by decide)
            have y5 : ¬ nI K = (30 : Int32) := nlit 30 30 rfl (by omega) (by decide) (by omega)
            simp only [gsX_X10_seen_1, gsX_X8_tell_1, a1, if_neg c1, b1, if_neg c2, if_neg c3, if_neg c4, k1, if_pos x5, nI_clamp (show K < 2 ^ 31 by omega), nI_1] at e
            simp only [gsY_X11_seen_1, gsY_X11_isIn_1, if_neg c3, if_neg c4, ite11, if_true, a2, if_neg c1, b2, if_neg c2, k2, if_neg y5, nI_clamp (show K < 2 ^ 31 by omega), nI_1] at e'
            cases e; cases e'
            refine ⟨rfl, hr.keep rfl rfl rfl rfl rfl rfl rfl rfl, ?_, h0, K + 1, by omega, rfl, rfl, fun j hj => ?_⟩
            · exact STAT.keep hh.2.1 (fr_u rfl) (fun k hk => ((fr_u2 (N := XSF) rfl k hk).trans ((fr_u2 (N := XSF) rfl k hk).trans ((fr_u2 (N := XSF) rfl k hk).trans (fr_u2 (N := XSF) rfl k hk))))) (fr_u rfl) (fun k hk => ((fr_u2 (N := YSF) rfl k hk).trans ((fr_u2 (N := YSF) rfl k hk).trans ((fr_u2 (N := YSF) rfl k hk).trans (fr_u2 (N := YSF) rfl k hk)))))
            · show upd (f 23) K p1 j = upd (f1 30) K p1 j ∧ upd (f 24) K (vp_nar .boolean p2) j = upd (f1 33) K (vp_nar .boolean p2) j ∧ upd (f 25) K (v 0) j = upd (f1 31) K (v1 39) j ∧ upd (f 26) K (-1) j = upd (f1 32) K (-1) j ∧ (upd (f 26) K (-1) j = -1 ∨ 0 ≤ upd (f 26) K (-1) j)
              by_cases ej : j = K
              · rw [ej, pk_us, pk_us, pk_us, pk_us, pk_us, pk_us, pk_us, pk_us]
                exact ⟨rfl, rfl, h0, rfl, Or.inl rfl⟩
              · rw [pk_un ej, pk_un ej, pk_un ej, pk_un ej, pk_un ej, pk_un ej, pk_un ej, pk_un ej]
                exact k3 j (by omega)
          · have e30 : K = 30 := by omega
            have x5 : ¬ nI K < (30 : Int32) := nI_nlt (b := 30) (by omega) (by omega)
            have y5 : nI K = (30 : Int32) := by rw [e30]; rfl
            refine bad ?_ ?_
            · simp only [gsX_X10_seen_1, gsX_X8_tell_1, a1, if_neg c1, b1, if_neg c2, if_neg c3, if_neg c4, k1, if_neg x5]
            · simp only [gsY_X11_seen_1, gsY_X11_isIn_1, if_neg c3, if_neg c4, ite11, if_true, a2, if_neg c1, b2, if_neg c2, k2, if_pos y5]
theorem R3.untell {p r r' : Int32} {u : (Nat → Int32) × (Nat → Nat → Int32)} {u' : (Nat → Int32) × (Nat → Nat → Int32) × Int64 × (Nat → Int64)} (h : R3 v f v1 f1) (ht : 0 ≤ (v 0).toInt) (e : gsX_X10_untell_1 NF p v f = (r, u)) (e' : gsY_X11_untell_1 NF p v1 f1 w1 g = (r', u')) : r = r' ∧ R3 u.1 u.2 u'.1 u'.2.1 := by
  have hh := h
  obtain ⟨hr, hs, h0, K, k0, k1, k2, k3⟩ := h
  have bad : gsX_X10_untell_1 NF p v f = (0, v, f) → gsY_X11_untell_1 NF p v1 f1 w1 g = (0, v1, f1, w1, g) → r = r' ∧ R3 u.1 u.2 u'.1 u'.2.1 := fun x y => by
    rw [x] at e
    rw [y] at e'
    cases e; cases e'
    exact ⟨rfl, hh⟩
  rcases in_cases p K with ⟨P, hP, rfl⟩ | hn
  · have x1 : ¬ nI P < (0 : Int32) := nI_pos (by omega)
    have x2 : ¬ nI K ≤ nI P := nI_ge hP (by omega)
    have x3 : ¬ (30 : Int32) ≤ nI P := lit_nle (b := 30) rfl (by omega) (by decide)
    obtain ⟨q1, q2, q3, q4, q5⟩ := k3 P hP
    have yi := yIsIn1 (NF := NF) (v1 := v1) (f1 := f1) (w1 := w1) (g := g) hP (show K < 2 ^ 31 by omega)
    by_cases c : f 26 P = -1
    · have c' : f1 32 P < 0 := by rw [← q4, c]; decide
      have ex : gsX_X10_untell_1 NF (nI P) v f = (1, v, upd2 f 26 (upd (f 26) P (v 0))) := by
        simp only [gsX_X10_untell_1, gsX_X8_takeBack_1, k1, if_neg x1, if_neg x2, if_neg x3, nI_clamp (show P < 2 ^ 31 by omega), if_pos c, ite11, if_true]
      have ey : gsY_X11_untell_1 NF (nI P) v1 f1 w1 g = (1, v1, upd2 f1 32 (upd (f1 32) P (v1 39)), w1, g) := by
        simp only [gsY_X11_untell_1, k2, yi, ite11, if_true, nI_clamp (show P < 2 ^ 31 by omega), if_pos c']
      rw [ex] at e
      rw [ey] at e'
      cases e; cases e'
      refine ⟨rfl, hr.keep rfl rfl rfl rfl rfl rfl rfl rfl, STAT.keep hs (fun _ _ => rfl) (fr_u2 rfl) (fun _ _ => rfl) (fr_u2 rfl), h0, K, k0, k1, k2, fun j hj => ?_⟩
      show f 23 j = f1 30 j ∧ f 24 j = f1 33 j ∧ f 25 j = f1 31 j ∧ upd (f 26) P (v 0) j = upd (f1 32) P (v1 39) j ∧ (upd (f 26) P (v 0) j = -1 ∨ 0 ≤ upd (f 26) P (v 0) j)
      obtain ⟨z1, z2, z3, z4, z5⟩ := k3 j hj
      by_cases ej : j = P
      · rw [ej] at z1 z2 z3 ⊢
        rw [pk_us, pk_us]
        exact ⟨z1, z2, z3, h0, Or.inr ((fa_le _ _).mpr ht)⟩
      · rw [pk_un ej, pk_un ej]
        exact ⟨z1, z2, z3, z4, z5⟩
    · have c' : ¬ f1 32 P < 0 := by
        rw [← q4]
        have z := q5.resolve_left c
        have z' := (fa_le _ _).mp z
        rw [fa_lt]
        have z0 : (0 : Int32).toInt = 0 := by decide
        omega
      refine bad ?_ ?_
      · simp only [gsX_X10_untell_1, gsX_X8_takeBack_1, k1, if_neg x1, if_neg x2, if_neg x3, nI_clamp (show P < 2 ^ 31 by omega), if_neg c, ite01]
      · simp only [gsY_X11_untell_1, k2, yi, ite11, if_true, nI_clamp (show P < 2 ^ 31 by omega), if_neg c']
  · have yi := yIsIn0 (NF := NF) (v1 := v1) (f1 := f1) (w1 := w1) (g := g) hn (show K < 2 ^ 31 by omega)
    refine bad ?_ ?_
    · by_cases c1 : p < 0
      · simp only [gsX_X10_untell_1, gsX_X8_takeBack_1, if_pos c1, ite01]
      · obtain ⟨P, hP, rfl⟩ := nI_of c1
        have x2 : nI K ≤ nI P := nI_le (Nat.le_of_not_lt (fun z => hn ⟨P, z, rfl⟩)) hP
        simp only [gsX_X10_untell_1, gsX_X8_takeBack_1, k1, if_neg c1, if_pos x2, ite01]
    · simp only [gsY_X11_untell_1, k2, yi, ite01]
def eu : Nat → Nat → Nat → Option Nat
  | 0, _, _ => none
  | k + 1, a, b => if b = 0 then some a else eu k b (a % b)
theorem euX : ∀ (k a b i fu d : Nat), eu k a b = some d → i + k ≤ 100 → a < 2 ^ 31 → b < 2 ^ 31 → k ≤ fu → gsX_X10_commonDivisor_1_L1 NF fu (nI a) (nI b) (nI i) = nI d := by
  intro k
  induction k with
  | zero => intro a b i fu d h; cases h
  | succ k ih =>
    intro a b i fu d h hi ha hb hf
    obtain ⟨fu, rfl⟩ : ∃ z, fu = z + 1 := ⟨fu - 1, by omega⟩
    simp only [eu] at h
    simp only [gsX_X10_commonDivisor_1_L1]
    rw [if_neg (show ¬ (100 : Int32) ≤ nI i from lit_nle (b := 100) rfl (by omega) (by decide))]
    by_cases c : b = 0
    · rw [if_pos c] at h
      rw [if_pos (show nI b = 0 by rw [c]; rfl)]
      injection h with h
      rw [h]
    · rw [if_neg c] at h
      rw [if_neg (nI_ne0 (by omega) hb), nI_modI ha hb, nI_1]
      exact ih b (a % b) (i + 1) fu d h (by omega) hb (Nat.lt_trans (Nat.mod_lt _ (by omega)) hb) (by omega)
theorem euY : ∀ (k a b fu d : Nat), eu k a b = some d → a < 2 ^ 31 → b < 2 ^ 31 → k ≤ fu → gsY_X11_divisor_1_L1 NF fu (nI a) (nI b) = nI d := by
  intro k
  induction k with
  | zero => intro a b fu d h; cases h
  | succ k ih =>
    intro a b fu d h ha hb hf
    obtain ⟨fu, rfl⟩ : ∃ z, fu = z + 1 := ⟨fu - 1, by omega⟩
    simp only [eu] at h
    simp only [gsY_X11_divisor_1_L1]
    by_cases c : b = 0
    · rw [if_pos c] at h
      rw [if_pos (show nI b ≤ 0 by rw [c]; decide)]
      injection h with h
      rw [h]
    · rw [if_neg c] at h
      rw [if_neg (nI_nle (by omega) hb), nI_modI ha hb]
      exact ih b (a % b) fu d h hb (Nat.lt_trans (Nat.mod_lt _ (by omega)) hb) (by omega)
theorem eu_all : ∀ q, q < 101 → ∀ n, n < 5 → (match eu 60 (100 ^ n) (q ^ n) with | none => false | some d => decide (0 < d ∧ d ≤ 100000000)) = true := by decide +kernel
theorem pw_all : ∀ q, q < 101 → ∀ n, n < 5 → q ^ n ≤ 100000000 ∧ 100 ^ n ≤ 100000000 := by decide +kernel
theorem powY {q n : Nat} (hn : n < 5) : gsY_X11_power_1 NF (nI q) (nI n) v1 f1 w1 g = nI (q ^ n) := by
  have L : ∀ (k j fu : Nat), j + k = n → k < fu → gsY_X11_power_1_L1 NF (nI q) (nI n) fu (nI (q ^ j)) (nI j) = nI (q ^ n) := by
    intro k
    induction k with
    | zero =>
      intro j fu hj hf
      obtain ⟨fu, rfl⟩ : ∃ z, fu = z + 1 := ⟨fu - 1, by omega⟩
      have e : j = n := by omega
      simp only [gsY_X11_power_1_L1]
      rw [if_pos (show nI n ≤ nI j by rw [e]; exact nI_le (Nat.le_refl _) (by omega)), e]
    | succ k ih =>
      intro j fu hj hf
      obtain ⟨fu, rfl⟩ : ∃ z, fu = z + 1 := ⟨fu - 1, by omega⟩
      simp only [gsY_X11_power_1_L1]
      rw [if_neg (show ¬ nI n ≤ nI j from nI_ge (by omega) (by omega)), nI_mulI, nI_1, ← Nat.pow_succ]
      exact ih (j + 1) fu (by omega) (by omega)
  exact L n 0 (4294967296 + NF) (by omega) (by omega)
theorem powX {p2 : Int32} {q n : Nat} (h36 : 100 - v 36 = nI q) (hn : n < 5) : ∀ (k j fu : Nat), j + k = n → k < fu → ∃ fu', gsX_X10_odds_1_L5 NF (nI n) p2 v f fu (nI (q ^ j)) (nI (100 ^ j)) (nI j) = gsX_X10_odds_1_L5 NF (nI n) p2 v f (fu' + 1) (nI (q ^ n)) (nI (100 ^ n)) (nI n) := by
  intro k
  induction k with
  | zero =>
    intro j fu hj hf
    obtain ⟨fu, rfl⟩ : ∃ z, fu = z + 1 := ⟨fu - 1, by omega⟩
    have e : j = n := by omega
    exact ⟨fu, by rw [e]⟩
  | succ k ih =>
    intro j fu hj hf
    obtain ⟨fu, rfl⟩ : ∃ z, fu = z + 1 := ⟨fu - 1, by omega⟩
    obtain ⟨fu', e⟩ := ih (j + 1) fu (by omega) (by omega)
    refine ⟨fu', Eq.trans ?_ e⟩
    conv => lhs; unfold gsX_X10_odds_1_L5
    simp only [h36]
    rw [if_neg (show ¬ nI n ≤ nI j from nI_ge (by omega) (by omega)), nI_mulI, nI_1, ← Nat.pow_succ, show nI (100 ^ j) * 100 = nI (100 ^ j * 100) from nI_mulI _ 100, ← Nat.pow_succ]
theorem R3.odds (h : R3 v f v1 f1) (p1 p2 : Int32) : gsX_X10_odds_1 NF p1 p2 v f = gsY_X11_odds_1 NF p1 p2 v1 f1 w1 g := by
  obtain ⟨_, ⟨_, ⟨_, _, _, s4, _, _, _, s8⟩, _⟩, _⟩ := h
  have z0 : (0 : Int32).toInt = 0 := by decide
  have z100 : (100 : Int32).toInt = 100 := by decide
  have l0 := (fa_le _ _).mp s8.1
  have l1 := (fa_le _ _).mp s8.2
  obtain ⟨R, hR, e36⟩ := nI_ofI (show 0 ≤ (v 36).toInt by omega)
  have hR : R ≤ 100 := by rw [e36, nI_toInt hR] at l1; omega
  have q36 : 100 - v 36 = nI (100 - R) := by rw [e36]; exact nI_subI (a := 100) hR
  have q29 : 100 - v1 29 = nI (100 - R) := by rw [← s4]; exact q36
  generalize hq : 100 - R = q at q36 q29
  have hq : q < 101 := by omega
  by_cases c1 : p1 < 0
  · simp only [gsX_X10_odds_1, gsY_X11_odds_1, gsY_X11_isIn_1, if_pos c1, ite01]
  · by_cases c2 : 4 < p1
    · simp only [gsX_X10_odds_1, gsY_X11_odds_1, gsY_X11_isIn_1, if_neg c1, if_pos c2, ite01]
    · by_cases c3 : p2 < 0
      · simp only [gsX_X10_odds_1, gsY_X11_odds_1, gsY_X11_isIn_1, if_neg c1, if_neg c2, if_pos c3, ite01, ite11, if_true]
      · by_cases c4 : p2 ≤ 1
        · have c5 : ¬ 1 < p2 := fun z => by
            have a := (fa_le _ _).mp c4
            have b := (fa_lt _ _).mp z
            omega
          obtain ⟨n, hn0, rfl⟩ := nI_of c1
          have hn : n < 5 := Nat.lt_of_not_le (fun z => c2 (nI_lt (a := 4) (by omega) hn0))
          obtain ⟨pw1, pw2⟩ := pw_all q hq n hn
          have ea := eu_all q hq n hn
          rcases hd : eu 60 (100 ^ n) (q ^ n) with _ | d
          · rw [hd] at ea; cases ea
          · rw [hd] at ea
            have ea : decide (0 < d ∧ d ≤ 100000000) = true := ea
            have ea := of_decide_eq_true ea
            obtain ⟨fu', eX⟩ := powX (NF := NF) (v := v) (f := f) (p2 := p2) q36 hn n 0 (4294967296 + NF) (by omega) (by omega)
            have gX : gsX_X10_commonDivisor_1 NF (nI (100 ^ n)) (nI (q ^ n)) v f = nI d := euX 60 (100 ^ n) (q ^ n) 0 (4294967296 + NF) d hd (by omega) (by omega) (by omega) (by omega)
            have gY : gsY_X11_divisor_1 NF (nI (100 ^ n)) (nI (q ^ n)) v1 f1 w1 g = nI d := euY 60 (100 ^ n) (q ^ n) (4294967296 + NF) d hd (by omega) (by omega) (by omega)
            have eX : gsX_X10_odds_1_L5 NF (nI n) p2 v f (4294967296 + NF) 1 1 0 = _ := eX
            have d1 : (1 : Int32) ≤ nI d := lit_le (b := 1) rfl (by omega) (by omega)
            have X : gsX_X10_odds_1 NF (nI n) p2 v f = (if p2 = 0 then nI (q ^ n) / nI d else nI (100 ^ n) / nI d) := by
              simp only [gsX_X10_odds_1, if_neg c1, if_neg c2, if_neg c3, if_pos c4, eX]
              simp only [gsX_X10_odds_1_L5]
              rw [if_pos (nI_le (Nat.le_refl _) (by omega)), gX, if_pos d1]
            rw [X]
            have pY := powY (NF := NF) (v1 := v1) (f1 := f1) (w1 := w1) (g := g) (q := q) hn
            simp only [gsY_X11_odds_1, gsY_X11_isIn_1, if_neg c1, if_neg c2, if_neg c3, if_neg c5, ite11, if_true, q29, pY, gsY_X11_power_2, gsY_X11_power_3, gsY_X11_power_4, gsY_X11_power_5, gsY_X11_power_6]
            rcases (show n = 0 ∨ n = 1 ∨ n = 2 ∨ n = 3 ∨ n = 4 by omega) with e | e | e | e | e <;> subst e
            · rw [if_pos (show nI 0 = (0 : Int32) from rfl)]
              have gY : gsY_X11_divisor_1 NF 1 (nI (q ^ 0)) v1 f1 w1 g = nI d := gY
              rw [gY]
              rfl
            · rw [if_neg (show ¬ nI 1 = (0 : Int32) by decide), if_pos (show nI 1 = (1 : Int32) from rfl)]
              have gY : gsY_X11_divisor_1 NF 100 (nI (q ^ 1)) v1 f1 w1 g = nI d := gY
              rw [gY]
              rfl
            · rw [if_neg (show ¬ nI 2 = (0 : Int32) by decide), if_neg (show ¬ nI 2 = (1 : Int32) by decide), if_pos (show nI 2 = (2 : Int32) from rfl)]
              have gY : gsY_X11_divisor_1 NF 10000 (nI (q ^ 2)) v1 f1 w1 g = nI d := gY
              rw [gY]
              rfl
            · rw [if_neg (show ¬ nI 3 = (0 : Int32) by decide), if_neg (show ¬ nI 3 = (1 : Int32) by decide), if_neg (show ¬ nI 3 = (2 : Int32) by decide), if_pos (show nI 3 = (3 : Int32) from rfl)]
              have gY : gsY_X11_divisor_1 NF 1000000 (nI (q ^ 3)) v1 f1 w1 g = nI d := gY
              rw [gY]
              rfl
            · rw [if_neg (show ¬ nI 4 = (0 : Int32) by decide), if_neg (show ¬ nI 4 = (1 : Int32) by decide), if_neg (show ¬ nI 4 = (2 : Int32) by decide), if_neg (show ¬ nI 4 = (3 : Int32) by decide), if_pos (show nI 4 = (4 : Int32) from rfl)]
              have gY : gsY_X11_divisor_1 NF 100000000 (nI (q ^ 4)) v1 f1 w1 g = nI d := gY
              rw [gY]
              rfl
        · have c5 : 1 < p2 := (fa_lt _ _).mpr (by
            have a : ¬ p2.toInt ≤ (1 : Int32).toInt := fun z => c4 ((fa_le _ _).mpr z)
            omega)
          simp only [gsX_X10_odds_1, gsY_X11_odds_1, gsY_X11_isIn_1, if_neg c1, if_neg c2, if_neg c3, if_neg c4, if_pos c5, ite01, ite11, if_true]
end
