def wearsOK (g : Nat → Int32) (n : Nat) : Prop := ∀ k, k < n → (k % 39 < 6 ∨ 12 ≤ k % 39 ∨ (-1 ≤ (g k).toInt ∧ (g k).toInt ≤ 5))
theorem wear_ld {g : Nat → Int32} {n k : Nat} (h : wearsOK g n) (hk : k < n) : k % 39 < 6 ∨ 12 ≤ k % 39 ∨ (-1 ≤ (g k).toInt ∧ (g k).toInt ≤ 5) := h k hk
theorem wear_st {g : Nat → Int32} {n k : Nat} {x : Int32} (h : wearsOK g n) (hx : k % 39 < 6 ∨ 12 ≤ k % 39 ∨ (-1 ≤ x.toInt ∧ x.toInt ≤ 5)) : wearsOK (upd g k x) n := by
  intro j hj
  show j % 39 < 6 ∨ 12 ≤ j % 39 ∨ (-1 ≤ (if j = k then x else g j).toInt ∧ (if j = k then x else g j).toInt ≤ 5)
  by_cases e : j = k
  · rw [if_pos e, e]; exact hx
  · rw [if_neg e]; exact h j hj
def rngOK (g : Nat → Int32) (n : Nat) (lo hi : Int) : Prop := ∀ k, k < n → lo ≤ (g k).toInt ∧ (g k).toInt ≤ hi
theorem rng_st {g : Nat → Int32} {n k : Nat} {lo hi : Int} {x : Int32} (h : rngOK g n lo hi) (hx : lo ≤ x.toInt ∧ x.toInt ≤ hi) : rngOK (upd g k x) n lo hi := by
  intro j hj
  show lo ≤ (if j = k then x else g j).toInt ∧ (if j = k then x else g j).toInt ≤ hi
  by_cases e : j = k
  · rw [if_pos e]; exact hx
  · rw [if_neg e]; exact h j hj
/-- how many values lie on the stack behind s steps -/
def dpF (st : Nat → Int32) : Nat → Int
  | 0 => 0
  | s + 1 => dpF st s + (if st s = 0 then 1 else if st s = 1 then 1 else if st s = 2 then 0 else -1)
def progOK (st ar : Nat → Int32) (n : Nat) : Prop := ∀ s, s < n → (st s = 0 → dpF st s ≤ 63) ∧ (st s = 1 → dpF st s ≤ 63 ∧ 0 ≤ (ar s).toInt ∧ (ar s).toInt ≤ 5) ∧ (st s = 2 → 1 ≤ dpF st s) ∧ (¬ st s = 0 → ¬ st s = 1 → ¬ st s = 2 → 2 ≤ dpF st s)
theorem dp_pos {st ar : Nat → Int32} {n : Nat} (h : progOK st ar n) : ∀ s, s ≤ n → 0 ≤ dpF st s
  | 0, _ => Int.le_refl 0
  | s + 1, hs => by
    have ih := dp_pos h s (by omega)
    obtain ⟨h0, h1, h2, h3⟩ := h s (by omega)
    show 0 ≤ dpF st s + (if st s = 0 then 1 else if st s = 1 then 1 else if st s = 2 then 0 else -1)
    by_cases c0 : st s = 0
    · rw [if_pos c0]; omega
    · rw [if_neg c0]
      by_cases c1 : st s = 1
      · rw [if_pos c1]; omega
      · rw [if_neg c1]
        by_cases c2 : st s = 2
        · rw [if_pos c2]; omega
        · rw [if_neg c2]; have := h3 c0 c1 c2; omega
theorem prog_facts {st ar : Nat → Int32} {n : Nat} (h : progOK st ar n) {s : Nat} (hs : s < n) {t : Int32} (et : t = st s) : (((t.toInt = 0 ∨ t.toInt = 1) ∧ dpF st s ≤ 63 ∧ dpF st (s + 1) = dpF st s + 1) ∨ (t.toInt = 2 ∧ 1 ≤ dpF st s ∧ dpF st (s + 1) = dpF st s) ∨ (¬ t.toInt = 0 ∧ ¬ t.toInt = 1 ∧ ¬ t.toInt = 2 ∧ 2 ≤ dpF st s ∧ dpF st (s + 1) = dpF st s - 1)) ∧ (¬ t.toInt = 1 ∨ (0 ≤ (ar s).toInt ∧ (ar s).toInt ≤ 5)) ∧ 0 ≤ dpF st s := by
  subst et
  have hp := dp_pos h s (by omega)
  obtain ⟨h0, h1, h2, h3⟩ := h s hs
  have e : dpF st (s + 1) = dpF st s + (if st s = 0 then 1 else if st s = 1 then 1 else if st s = 2 then 0 else -1) := rfl
  have z0 : (st s = 0) ↔ (st s).toInt = 0 := fa_eq _ _
  have z1 : (st s = 1) ↔ (st s).toInt = 1 := fa_eq _ _
  have z2 : (st s = 2) ↔ (st s).toInt = 2 := fa_eq _ _
  rw [e]
  by_cases c0 : st s = 0
  · have k0 := z0.mp c0
    rw [if_pos c0]
    refine ⟨Or.inl ⟨Or.inl k0, h0 c0, rfl⟩, Or.inl (by omega), hp⟩
  · have k0 : ¬ (st s).toInt = 0 := fun q => c0 (z0.mpr q)
    rw [if_neg c0]
    by_cases c1 : st s = 1
    · have k1 := z1.mp c1
      rw [if_pos c1]
      exact ⟨Or.inl ⟨Or.inr k1, (h1 c1).1, rfl⟩, Or.inr (h1 c1).2, hp⟩
    · have k1 : ¬ (st s).toInt = 1 := fun q => c1 (z1.mpr q)
      rw [if_neg c1]
      by_cases c2 : st s = 2
      · have k2 := z2.mp c2
        rw [if_pos c2]
        exact ⟨Or.inr (Or.inl ⟨k2, h2 c2, by omega⟩), Or.inl k1, hp⟩
      · have k2 : ¬ (st s).toInt = 2 := fun q => c2 (z2.mpr q)
        rw [if_neg c2]
        exact ⟨Or.inr (Or.inr ⟨k0, k1, k2, h3 c0 c1 c2, by omega⟩), Or.inl k1, hp⟩
def YC (f : Nat → Nat → Int32) : Prop := wearsOK (f 23) 39 ∧ wearsOK (f 24) 39 ∧ wearsOK (f 25) 1560 ∧ rngOK (f 27) 6 (-1) 5 ∧ rngOK (f 30) 30 (0) 20 ∧ wearsOK (f 37) 117
def YW (cy : Nat → ClassId) (y0 : Nat) (r : Nat → Nat) (v : Nat → Int32) (f : Nat → Nat → Int32) (w : Int64) (g : Nat → Int64) : va_W := [(y0, .inr (11, [.ref (r 0), .int (v 0), .int (v 1), .int (v 2), .int (v 3), .int (v 4), .int (v 5), .int (v 6), .int (v 7), .long w, .ref (r 10), .ref (r 11), .ref (r 12), .ref (r 13), .ref (r 14), .ref (r 15), .ref (r 16), .int (v 8), .int (v 9), .int (v 10), .int (v 11), .int (v 12), .int (v 13), .int (v 14), .int (v 15), .int (v 16), .ref (r 26), .ref (r 27), .ref (r 28), .ref (r 29), .ref (r 30), .ref (r 31), .ref (r 32), .ref (r 33), .ref (r 34), .ref (r 35), .ref (r 36), .ref (r 37), .ref (r 38), .ref (r 39), .ref (r 40), .int (v 17), .int (v 18), .int (v 19), .int (v 20), .int (v 21), .int (v 22), .int (v 23), .int (v 24), .int (v 25), .int (v 26), .int (v 27), .int (v 28), .int (v 29), .int (v 30), .int (v 31), .int (v 32), .int (v 33), .int (v 34), .ref (r 59), .ref (r 60), .ref (r 61), .int (v 35), .int (v 36), .ref (r 64), .ref (r 65), .ref (r 66), .int (v 37), .ref (r 68), .ref (r 69), .ref (r 70), .ref (r 71), .ref (r 72), .int (v 38), .int (v 39), .ref (r 75), .ref (r 76), .ref (r 77), .ref (r 78)])),
  ((r 0), .inl (cy 1, 1600, .inl (f 0))),
  ((r 10), .inl (cy 2, 12, .inr (.inl g))),
  ((r 11), .inl (cy 1, 320, .inl (f 2))),
  ((r 12), .inl (cy 1, 320, .inl (f 3))),
  ((r 13), .inl (cy 1, 320, .inl (f 4))),
  ((r 14), .inl (cy 1, 320, .inl (f 5))),
  ((r 15), .inl (cy 1, 160, .inl (f 6))),
  ((r 16), .inl (cy 1, 64, .inl (f 7))),
  ((r 26), .inl (cy 1, 6, .inl (f 8))),
  ((r 27), .inl (cy 1, 6, .inl (f 9))),
  ((r 28), .inl (cy 1, 6, .inl (f 10))),
  ((r 29), .inl (cy 1, 6, .inl (f 11))),
  ((r 30), .inl (cy 1, 6, .inl (f 12))),
  ((r 31), .inl (cy 1, 6, .inl (f 13))),
  ((r 32), .inl (cy 1, 6, .inl (f 14))),
  ((r 33), .inl (cy 1, 6, .inl (f 15))),
  ((r 34), .inl (cy 1, 6, .inl (f 16))),
  ((r 35), .inl (cy 1, 6, .inl (f 17))),
  ((r 36), .inl (cy 1, 6, .inl (f 18))),
  ((r 37), .inl (cy 1, 6, .inl (f 19))),
  ((r 38), .inl (cy 1, 6, .inl (f 20))),
  ((r 39), .inl (cy 1, 6, .inl (f 21))),
  ((r 40), .inl (cy 1, 6, .inl (f 22))),
  ((r 59), .inl (cy 1, 39, .inl (f 23))),
  ((r 60), .inl (cy 1, 39, .inl (f 24))),
  ((r 61), .inl (cy 1, 1560, .inl (f 25))),
  ((r 64), .inl (cy 1, 6, .inl (f 26))),
  ((r 65), .inl (cy 1, 6, .inl (f 27))),
  ((r 66), .inl (cy 1, 36, .inl (f 28))),
  ((r 68), .inl (cy 1, 64, .inl (f 29))),
  ((r 69), .inl (cy 1, 30, .inl (f 30))),
  ((r 70), .inl (cy 1, 30, .inl (f 31))),
  ((r 71), .inl (cy 1, 30, .inl (f 32))),
  ((r 72), .inl (cy 3, 30, .inl (f 33))),
  ((r 75), .inl (cy 3, 651, .inl (f 34))),
  ((r 76), .inl (cy 3, 31, .inl (f 35))),
  ((r 77), .inl (cy 3, 3, .inl (f 36))),
  ((r 78), .inl (cy 1, 117, .inl (f 37)))]
def ylo : Nat → Int := fun k => if k = 0 then 0 else if k = 1 then 0 else if k = 3 then 0 else if k = 4 then 0 else if k = 8 then 0 else if k = 9 then 0 else if k = 10 then 0 else if k = 13 then 0 else if k = 14 then 0 else if k = 15 then 0 else if k = 17 then 0 else if k = 18 then 0 else if k = 24 then 0 else if k = 25 then 0 else if k = 35 then 0 else if k = 36 then 0 else if k = 37 then 0 else if k = 38 then 0 else if k = 39 then 0 else -2147483648
def yhi : Nat → Int := fun k => if k = 0 then 1600 else if k = 1 then 4 else if k = 3 then 1600 else if k = 4 then 1600 else if k = 8 then 320 else if k = 9 then 320 else if k = 10 then 160 else if k = 13 then 31 else if k = 14 then 8 else if k = 15 then 1 else if k = 17 then 6 else if k = 18 then 6 else if k = 24 then 6 else if k = 25 then 6 else if k = 35 then 40 else if k = 36 then 40 else if k = 37 then 6 else if k = 38 then 30 else if k = 39 then 100000 else 2147483647
def YIb (v : Nat → Int32) : Prop := ∀ k, k < 40 → ylo k ≤ (v k).toInt ∧ (v k).toInt ≤ yhi k
theorem YIb.b {v : Nat → Int32} (h : YIb v) (k : Nat) (hk : k < 40) : ylo k ≤ (v k).toInt ∧ (v k).toInt ≤ yhi k := h k hk
theorem YIb.upd {v : Nat → Int32} {j : Nat} {x : Int32} (h : YIb v) (h1 : ylo j ≤ x.toInt) (h2 : x.toInt ≤ yhi j) : YIb (upd v j x) := by
  intro k hk
  show ylo k ≤ (if k = j then x else v k).toInt ∧ (if k = j then x else v k).toInt ≤ yhi k
  by_cases e : k = j
  · rw [if_pos e, e]; exact ⟨h1, h2⟩
  · rw [if_neg e]; exact h k hk
def YI (v : Nat → Int32) : Prop := YIb v ∧ (v 35).toInt + (v 36).toInt ≤ 40
