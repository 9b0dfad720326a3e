abbrev SY : Type := (Nat → Int32) × (Nat → Nat → Int32) × Int64 × (Nat → Int64)
abbrev SX : Type := (Nat → Int32) × (Nat → Nat → Int32)
theorem lpQ {S R : Type} (F : Nat → Int32 → S → R) (Q : R → Prop) (P : Nat → S → Prop) (n : Nat) (h1 : ∀ fu j s, j < n → P j s → (∃ s', P (j + 1) s' ∧ F (fu + 1) (nI j) s = F fu (nI (j + 1)) s') ∨ Q (F (fu + 1) (nI j) s)) (h2 : ∀ fu s, P n s → Q (F (fu + 1) (nI n) s)) : ∀ (k j fu : Nat) (s : S), j + k = n → k < fu → P j s → Q (F fu (nI j) s) := by
  intro k
  induction k with
  | zero =>
    intro j fu s hj hf hP
    obtain ⟨fu, rfl⟩ : ∃ z, fu = z + 1 := ⟨fu - 1, by omega⟩
    have e : j = n := by omega
    rw [e] at hP ⊢
    exact h2 fu s hP
  | succ k ih =>
    intro j fu s hj hf hP
    obtain ⟨fu, rfl⟩ : ∃ z, fu = z + 1 := ⟨fu - 1, by omega⟩
    rcases h1 fu j s (by omega) hP with ⟨s', a, b⟩ | q
    · rw [b]
      exact ih (j + 1) fu s' (by omega) (by omega) a
    · exact q
theorem nI_mulI (a b : Nat) : nI a * nI b = nI (a * b) := (Int32.ofNat_mul a b).symm
theorem lit_le {L : Int32} {b n : Nat} (hL : L = nI b) (h : b ≤ n) (hn : n < 2 ^ 31) : L ≤ nI n := by rw [hL]; exact nI_le h hn
theorem lit_nle {L : Int32} {b n : Nat} (hL : L = nI b) (h : n < b) (hb : b < 2 ^ 31) : ¬ L ≤ nI n := by rw [hL]; exact nI_ge h hb
theorem upd2_same {f : Nat → Nat → Int32} {q : Nat} : upd2 f q (f q) = f := by
  funext j
  unfold upd2
  by_cases e : j = q
  · rw [if_pos e, e]
  · rw [if_neg e]
