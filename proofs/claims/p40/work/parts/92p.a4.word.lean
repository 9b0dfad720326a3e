section
variable {NF : Nat}
def wStep (x : Int64) (a : Nat) : Int64 := (x <<< ((8 : Int32).toInt64 &&& 63)) ||| (nI a).toInt64
theorem wvF_s (c : Nat → Nat) : ∀ (k p : Nat) (x : Int64), wvF c (k + 1) p x = wStep (wvF c k p x) (c (p + k)) := by
  intro k
  induction k with
  | zero => intro p x; rfl
  | succ k ih =>
    intro p x
    show wvF c (k + 1) (p + 1) (wStep x (c p)) = wStep (wvF c k (p + 1) (wStep x (c p))) (c (p + (k + 1)))
    rw [ih (p + 1) (wStep x (c p)), show p + 1 + k = p + (k + 1) by omega]
def wnF (c : Nat → Nat) : Nat → Nat → Nat
  | 0, _ => 0
  | k + 1, p => 256 * wnF c k p + c (p + k)
theorem wA : ∀ a, a < 256 → (nI a).toInt64.toBitVec.toNat = a := by decide +kernel
theorem wStep_n {x : Int64} {X a : Nat} (hx : x.toBitVec.toNat = X) (hX : 256 * X < 2 ^ 64) (ha : a < 256) : (wStep x a).toBitVec.toNat = 256 * X + a := by
  unfold wStep
  rw [show ((8 : Int32).toInt64 &&& 63) = (8 : Int64) from by decide, Int64.toBitVec_or, BitVec.toNat_or, wA a ha]
  rw [show (x <<< (8 : Int64)).toBitVec = x.toBitVec <<< ((8 : Int64).toBitVec.smod 64).toNat from rfl, show ((8 : Int64).toBitVec.smod 64).toNat = 8 from by decide, BitVec.toNat_shiftLeft, hx, Nat.shiftLeft_eq, Nat.mul_comm X, Nat.mod_eq_of_lt (show 2 ^ 8 * X < 2 ^ 64 by omega)]
  exact (Nat.two_pow_add_eq_or_of_lt (i := 8) ha X).symm
theorem wvF_n {c : Nat → Nat} {p : Nat} : ∀ k, k ≤ 8 → (∀ i, i < k → c (p + i) < 256) → (wvF c k p 0).toBitVec.toNat = wnF c k p ∧ wnF c k p < 256 ^ k := by
  intro k
  induction k with
  | zero => intro _ _; exact ⟨rfl, Nat.zero_lt_one⟩
  | succ k ih =>
    intro hk hc
    obtain ⟨h1, h2⟩ := ih (by omega) (fun i hi => hc i (by omega))
    have h3 : 256 * wnF c k p + c (p + k) < 256 ^ (k + 1) := by
      have := hc k (by omega)
      rw [Nat.pow_succ]
      omega
    have h4 : 256 ^ (k + 1) ≤ 256 ^ 8 := Nat.pow_le_pow_right (by decide) hk
    have h5 : (256 : Nat) ^ 8 = 2 ^ 64 := by decide
    refine ⟨?_, h3⟩
    rw [wvF_s]
    exact wStep_n h1 (by omega) (hc k (by omega))
theorem wn_inj {c d : Nat → Nat} {p q : Nat} : ∀ k l, (∀ i, i < k → 0 < c (p + i) ∧ c (p + i) < 256) → (∀ i, i < l → 0 < d (q + i) ∧ d (q + i) < 256) → wnF c k p = wnF d l q → k = l ∧ ∀ i, i < k → c (p + i) = d (q + i) := by
  intro k
  induction k with
  | zero =>
    intro l _ hd h
    match l with
    | 0 => exact ⟨rfl, fun i hi => absurd hi (by omega)⟩
    | l + 1 => have := hd l (by omega); have h : 0 = 256 * wnF d l q + d (q + l) := h; omega
  | succ k ih =>
    intro l hc hd h
    match l with
    | 0 => have := hc k (by omega); have h : 256 * wnF c k p + c (p + k) = 0 := h; omega
    | l + 1 =>
      have h : 256 * wnF c k p + c (p + k) = 256 * wnF d l q + d (q + l) := h
      have h1 := hc k (by omega)
      have h2 := hd l (by omega)
      obtain ⟨e1, e2⟩ := ih l (fun i hi => hc i (by omega)) (fun i hi => hd i (by omega)) (by omega)
      have hb : c (p + k) = d (q + l) := by omega
      refine ⟨by omega, fun i hi => ?_⟩
      by_cases e : i = k
      · rw [e, hb, e1]
      · exact e2 i (by omega)
theorem wv_inj {c d : Nat → Nat} {p q k l : Nat} (hk : k ≤ 8) (hl : l ≤ 8) (hc : ∀ i, i < k → 0 < c (p + i) ∧ c (p + i) < 256) (hd : ∀ i, i < l → 0 < d (q + i) ∧ d (q + i) < 256) : wvF c k p 0 = wvF d l q 0 ↔ (k = l ∧ ∀ i, i < k → c (p + i) = d (q + i)) := by
  constructor
  · intro h
    have h1 := (wvF_n k hk (fun i hi => (hc i hi).2)).1
    have h2 := (wvF_n l hl (fun i hi => (hd i hi).2)).1
    rw [h, h2] at h1
    exact wn_inj k l hc hd h1.symm
  · rintro ⟨rfl, h⟩
    have e : ∀ m, m ≤ k → wvF c m p 0 = wvF d m q 0 := by
      intro m
      induction m with
      | zero => intro _; rfl
      | succ m ih => intro hm; rw [wvF_s, wvF_s, ih (by omega), h m (by omega)]
    exact e k (Nat.le_refl _)
def wC (k : Nat) : Int64 := wvF (fun i => (lx_W.getD (k - 101) []).getD i 0) (lx_W.getD (k - 101) []).length 0 0
theorem lx_W_ok : ∀ k, k < 21 → (lx_W.getD k []).length ≤ 8 ∧ ∀ i, i < (lx_W.getD k []).length → 0 < (lx_W.getD k []).getD i 0 ∧ (lx_W.getD k []).getD i 0 < 256 := by decide +kernel
theorem lx_W_ne : ∀ a, a < 21 → ∀ b, b < 21 → lx_W.getD a [] = lx_W.getD b [] → a = b := by decide +kernel
theorem lx_k_at (c : Nat → Nat) (p len : Nat) : ∀ (ws : List (List Nat)) (k : Nat), (lx_k c p len ws k = 3 ∧ ∀ j, j < ws.length → ¬ (len = (ws.getD j []).length ∧ ∀ i, i < (ws.getD j []).length → c (p + i) = (ws.getD j []).getD i 0)) ∨ (∃ j, j < ws.length ∧ lx_k c p len ws k = k + j ∧ (len = (ws.getD j []).length ∧ ∀ i, i < (ws.getD j []).length → c (p + i) = (ws.getD j []).getD i 0)) := by
  intro ws
  induction ws with
  | nil => intro k; exact Or.inl ⟨rfl, fun j hj => absurd hj (by simp)⟩
  | cons w ws ih =>
    intro k
    rw [lx_k]
    by_cases h : len = w.length ∧ ∀ i, i < w.length → c (p + i) = w.getD i 0
    · rw [if_pos h]
      exact Or.inr ⟨0, by simp, rfl, h⟩
    · rw [if_neg h]
      rcases ih (k + 1) with ⟨q1, q2⟩ | ⟨j, q1, q2, q3⟩
      · refine Or.inl ⟨q1, fun j hj => ?_⟩
        match j with
        | 0 => exact h
        | j + 1 => rw [List.getD_cons_succ]; exact q2 j (by simpa using hj)
      · exact Or.inr ⟨j + 1, by simpa using q1, by omega, by rw [List.getD_cons_succ]; exact q3⟩
theorem tok_word {c : Nat → Nat} {n p : Nat} (hc : ∀ k, k < n → c k < 256) (h : tS (tK c n p) = 1) : p < n ∧ lx_l (c p) = true ∧ tE c n p = lx_c lx_l c n p ∧ tE c n p - p ≤ 8 ∧ tK c n p = lx_k c p (tE c n p - p) lx_W 101 := by
  unfold tK at h
  by_cases e1 : n ≤ p
  · rw [if_pos e1] at h; exact absurd h (by decide)
  · rw [if_neg e1] at h
    by_cases hl : lx_l (c p) = true
    · rw [if_pos hl] at h
      by_cases h8 : 8 < tE c n p - p
      · rw [if_pos h8] at h; exact absurd h (by decide)
      · exact ⟨by omega, hl, by unfold tE; rw [if_neg e1, if_pos hl], by omega, by unfold tK; rw [if_neg e1, if_pos hl, if_neg h8]⟩
    · rw [if_neg hl] at h
      by_cases hd : lx_d (c p) = true
      · rw [if_pos hd] at h
        by_cases h4 : 4 < tE c n p - p ∨ (tE c n p < n ∧ lx_l (c (tE c n p)) = true)
        · rw [if_pos h4] at h; exact absurd h (by decide)
        · rw [if_neg h4] at h; exact absurd h (by decide)
      · rw [if_neg hd] at h
        by_cases hs : lx_s (c p) = true
        · rw [if_pos hs] at h
          obtain ⟨s1, _, s3, _, _⟩ := sgS (c p) (hc p (by omega)) hs
          exact absurd (s1.symm.trans h) s3
        · rw [if_neg hs] at h; exact absurd h (by decide)
theorem lx_l_pos {a : Nat} (h : lx_l a = true) : 0 < a ∧ a < 256 := by
  simp only [lx_l, Bool.and_eq_true, decide_eq_true_eq] at h
  omega
theorem run_l {c : Nat → Nat} {n p : Nat} : ∀ i, i < lx_c lx_l c n p - p → 0 < c (p + i) ∧ c (p + i) < 256 := fun i hi => lx_l_pos (lx_cin (by omega) (show p + i < lx_c lx_l c n p by omega)).2
theorem tok_W {c : Nat → Nat} {n p k : Nat} (hc : ∀ k, k < n → c k < 256) (h : tS (tK c n p) = 1) (hk1 : 101 ≤ k) (hk2 : k ≤ 121) : tW c n p = wC k ↔ tK c n p = k := by
  obtain ⟨t1, t2, t3, t4, t5⟩ := tok_word hc h
  obtain ⟨o1, o2⟩ := lx_W_ok (k - 101) (by omega)
  have hr : ∀ i, i < tE c n p - p → 0 < c (p + i) ∧ c (p + i) < 256 := by rw [t3]; exact run_l
  have key := wv_inj (c := c) (d := fun i => (lx_W.getD (k - 101) []).getD i 0) (p := p) (q := 0) (k := tE c n p - p) (l := (lx_W.getD (k - 101) []).length) t4 o1 hr (fun i hi => by simpa using o2 i hi)
  unfold tW wC
  rw [key, t5]
  have hL : lx_W.length = 21 := rfl
  rcases lx_k_at c p (tE c n p - p) lx_W 101 with ⟨q1, q2⟩ | ⟨j, q1, q2, q3⟩
  · rw [q1]
    constructor
    · rintro ⟨a, b⟩
      exact absurd ⟨a, fun i hi => by have := b i (by omega); simpa using this⟩ (q2 (k - 101) (by omega))
    · intro z; omega
  · rw [q2]
    constructor
    · rintro ⟨a, b⟩
      have e : lx_W.getD j [] = lx_W.getD (k - 101) [] := by
        apply List.ext_getElem (by omega)
        intro i h1 h2
        have x1 := q3.2 i h1
        have x2 : (lx_W.getD j []).getD i 0 = (lx_W.getD (k - 101) []).getD i 0 := by
          rw [← x1]
          have := b i (by omega)
          simpa using this
        rw [List.getD_eq_getElem?_getD (l := lx_W.getD j []) (i := i), List.getD_eq_getElem?_getD (l := lx_W.getD (k - 101) []) (i := i), List.getElem?_eq_getElem h1, List.getElem?_eq_getElem h2] at x2
        exact x2
      have := lx_W_ne j (by omega) (k - 101) (by omega) e
      omega
    · intro z
      have : j = k - 101 := by omega
      subst this
      exact ⟨q3.1, fun i hi => by have := q3.2 i (by omega); simpa using this⟩
theorem lgc {x y : Int64} : lg_cmp x y = 0 ↔ x = y := by
  unfold lg_cmp
  by_cases h : x > y
  · rw [if_pos h]
    constructor
    · intro z; exact absurd z (by decide)
    · intro z; subst z; exact absurd h (by simp)
  · rw [if_neg h]
    by_cases e : x = y
    · rw [if_pos e]; exact ⟨fun _ => e, fun _ => rfl⟩
    · rw [if_neg e]; exact ⟨fun z => absurd z (by decide), fun z => absurd z e⟩
def CX (c : Nat → Nat) (n i : Nat) (v : Nat → Int32) : Prop := v 2 = nI (tk_k c n i) ∧ v 3 = nI (tk_p c n i) ∧ v 4 = nI (tk_b c n (i + 1)) ∧ (tk_k c n i = 2 → v 5 = tk_n c n i)
def CY (c : Nat → Nat) (n i : Nat) (v : Nat → Int32) (w : Int64) : Prop := v 6 = nI (tk_p c n i) ∧ v 5 = nI (tS (tk_k c n i)) ∧ (tk_k c n i ≠ 1 → v 3 = nI (tk_b c n (i + 1))) ∧ (tk_k c n i = 2 → v 7 = tk_n c n i) ∧ (tS (tk_k c n i) = 1 → w = tk_w c n i)
theorem tE_le {c : Nat → Nat} {n p : Nat} (h : p ≤ n) : tE c n p ≤ n ∧ p ≤ tE c n p := by
  unfold tE
  by_cases e1 : n ≤ p
  · rw [if_pos e1]; omega
  · rw [if_neg e1]
    by_cases hl : lx_l (c p) = true
    · rw [if_pos hl]; exact ⟨lx_cle lx_l c h, lx_cge lx_l c n p⟩
    · rw [if_neg hl]
      by_cases hd : lx_d (c p) = true
      · rw [if_pos hd]; exact ⟨lx_cle lx_d c h, lx_cge lx_d c n p⟩
      · rw [if_neg hd]; omega
theorem tk_b_le (c : Nat → Nat) (n : Nat) : ∀ i, tk_b c n i ≤ n ∧ tk_p c n i ≤ n := by
  intro i
  induction i with
  | zero => exact ⟨Nat.zero_le _, lx_cle lx_b c (Nat.zero_le _)⟩
  | succ i ih =>
    have h : tk_b c n (i + 1) ≤ n := (tE_le ih.2).1
    exact ⟨h, lx_cle lx_b c h⟩
theorem advX {c : Nat → Nat} {n i : Nat} {v : Nat → Int32} {f : Nat → Nat → Int32} (T : TX c n v f) (h : v 4 = nI (tk_b c n (i + 1))) : ∃ v', gsX_X9_advance_1 NF v f = (v', f) ∧ CX c n (i + 1) v' ∧ ∀ k, k ≠ 2 → k ≠ 3 → k ≠ 4 → k ≠ 5 → v' k = v k := by
  obtain ⟨v', e, a, b⟩ := xAdv (NF := NF) T h (tk_b_le c n (i + 1)).1
  exact ⟨v', e, b, a⟩
theorem tokY {c : Nat → Nat} {n i : Nat} {v : Nat → Int32} {f : Nat → Nat → Int32} {w : Int64} {g : Nat → Int64} (T : TY c n v f) (h : v 3 = nI (tk_b c n (i + 1))) : ∃ (v' : Nat → Int32) (w' : Int64), gsY_X11_token_1 NF v f w g = (v', f, w', g) ∧ CY c n (i + 1) v' w' ∧ ∀ k, k ≠ 3 → k ≠ 5 → k ≠ 6 → k ≠ 7 → v' k = v k := by
  obtain ⟨v', w', e, a, b⟩ := yTok (NF := NF) (w := w) (g := g) T h (tk_b_le c n (i + 1)).1
  exact ⟨v', w', e, b, a⟩
theorem tK_lt {c : Nat → Nat} {n p : Nat} (hc : ∀ k, k < n → c k < 256) : tK c n p < 256 := by
  unfold tK
  by_cases e1 : n ≤ p
  · rw [if_pos e1]; decide
  · rw [if_neg e1]
    by_cases hl : lx_l (c p) = true
    · rw [if_pos hl]
      by_cases h8 : 8 < tE c n p - p
      · rw [if_pos h8]; decide
      · rw [if_neg h8]
        rcases lx_k_W c p (tE c n p - p) with q | q <;> omega
    · rw [if_neg hl]
      by_cases hd : lx_d (c p) = true
      · rw [if_pos hd]
        by_cases h4 : 4 < tE c n p - p ∨ (tE c n p < n ∧ lx_l (c (tE c n p)) = true)
        · rw [if_pos h4]; decide
        · rw [if_neg h4]; decide
      · rw [if_neg hd]
        by_cases hs : lx_s (c p) = true
        · rw [if_pos hs]; exact hc p (by omega)
        · rw [if_neg hs]; decide
theorem tk_lt {c : Nat → Nat} {n : Nat} (hc : ∀ k, k < n → c k < 256) (i : Nat) : tk_k c n i < 256 := tK_lt hc
theorem tS_lt {k : Nat} (h : k < 256) : tS k < 2 ^ 31 := by
  unfold tS
  by_cases e1 : k = 1
  · rw [if_pos e1]; decide
  · rw [if_neg e1]
    by_cases e2 : k = 3 ∨ 101 ≤ k
    · rw [if_pos e2]; decide
    · rw [if_neg e2]; omega
theorem tok_le {c : Nat → Nat} {n p : Nat} (hc : ∀ k, k < n → c k < 256) (h : tS (tK c n p) = 1) : tK c n p ≤ 121 := by
  obtain ⟨t1, t2, t3, t4, t5⟩ := tok_word hc h
  rw [t5]
  rcases lx_k_W c p (tE c n p - p) with q | q <;> omega
theorem yIsW {c : Nat → Nat} {n i k : Nat} {v : Nat → Int32} {f : Nat → Nat → Int32} {w : Int64} {g : Nat → Int64} (hc : ∀ k, k < n → c k < 256) (C : CY c n i v w) (hk1 : 101 ≤ k) (hk2 : k ≤ 121) {j : Int64} (hj : j = wC k) : gsY_X11_isWord_1 NF j v f w g = if tk_k c n i = k then 1 else 0 := by
  subst hj
  obtain ⟨c1, c2, c3, c4, c5⟩ := C
  simp only [gsY_X11_isWord_1]
  rw [c2]
  by_cases h : tS (tk_k c n i) = 1
  · rw [if_pos (by rw [h]; rfl), c5 h]
    have hW : tk_w c n i = wC k ↔ tk_k c n i = k := tok_W hc h hk1 hk2
    by_cases e : tk_k c n i = k
    · rw [if_pos (lgc.mpr (hW.mpr e)), if_pos e]
    · rw [if_neg (fun z => e (hW.mp (lgc.mp z))), if_neg e]
  · have e : tk_k c n i ≠ k := by
      intro e
      apply h
      rw [e]
      unfold tS
      rw [if_neg (by omega), if_pos (by omega)]
    have hb : tS (tk_k c n i) < 2 ^ 31 := tS_lt (tk_lt hc i)
    rw [if_neg (nlit 1 1 rfl hb (by decide) h), if_neg e]
end
