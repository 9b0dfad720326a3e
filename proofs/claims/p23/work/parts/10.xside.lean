def XW (cy : Nat → ClassId) (x0 : Nat) (x : Nat → Nat) (v : Nat → Int32) (f : Nat → Nat → Int32) : va_W := [(x0, .inr (10, [.ref (x 0), .ref (x 2), .ref (x 26), .ref (x 21), .ref (x 20), .ref (x 25), .ref (x 29), .ref (x 31), .ref (x 35), .int (v 0)])),
  ((x 0), .inr (9, [.ref (x 1), .int (v 1), .int (v 2), .int (v 3), .int (v 4), .int (v 5)])),
  ((x 1), .inl (cy 0, 1600, .inl (f 0))),
  ((x 2), .inr (6, [.ref (x 0), .ref (x 3), .ref (x 11), .ref (x 12), .int (v 6), .int (v 7), .int (v 8)])),
  ((x 3), .inr (7, [.ref (x 4), .ref (x 5), .ref (x 6), .int (v 9), .int (v 10), .int (v 11), .int (v 12), .int (v 13), .int (v 14), .int (v 15)])),
  ((x 4), .inl (cy 1, 18, .inl (f 1))),
  ((x 5), .inl (cy 1, 24, .inl (f 2))),
  ((x 6), .inr (4, [.ref (x 7), .ref (x 8), .ref (x 9), .ref (x 10), .int (v 16), .int (v 17)])),
  ((x 7), .inl (cy 1, 300, .inl (f 3))),
  ((x 8), .inl (cy 1, 300, .inl (f 4))),
  ((x 9), .inl (cy 1, 30, .inl (f 5))),
  ((x 10), .inl (cy 1, 6, .inl (f 6))),
  ((x 11), .inl (cy 1, 6, .inl (f 7))),
  ((x 12), .inl (cy 1, 6, .inl (f 8))),
  ((x 13), .inl (cy 1, 18, .inl (f 9))),
  ((x 14), .inl (cy 1, 24, .inl (f 10))),
  ((x 15), .inr (4, [.ref (x 16), .ref (x 17), .ref (x 18), .ref (x 19), .int (v 18), .int (v 19)])),
  ((x 16), .inl (cy 1, 300, .inl (f 11))),
  ((x 17), .inl (cy 1, 300, .inl (f 12))),
  ((x 18), .inl (cy 1, 30, .inl (f 13))),
  ((x 19), .inl (cy 1, 6, .inl (f 14))),
  ((x 20), .inr (5, [.ref (x 21), .ref (x 24), .ref (x 23), .int (v 20), .int (v 21), .int (v 22), .int (v 23)])),
  ((x 21), .inr (1, [.ref (x 26), .ref (x 22)])),
  ((x 22), .inl (cy 1, 44, .inl (f 15))),
  ((x 23), .inl (cy 1, 132, .inl (f 16))),
  ((x 24), .inl (cy 1, 1804, .inl (f 17))),
  ((x 25), .inr (3, [.ref (x 26), .ref (x 21), .ref (x 27), .int (v 24), .int (v 25), .int (v 26), .int (v 27), .int (v 28), .int (v 29), .int (v 30)])),
  ((x 26), .inr (7, [.ref (x 13), .ref (x 14), .ref (x 15), .int (v 31), .int (v 32), .int (v 33), .int (v 34), .int (v 35), .int (v 36), .int (v 37)])),
  ((x 27), .inr (1, [.ref (x 26), .ref (x 28)])),
  ((x 28), .inl (cy 1, 44, .inl (f 18))),
  ((x 29), .inr (2, [.ref (x 26), .ref (x 21), .ref (x 30)])),
  ((x 30), .inl (cy 1, 64, .inl (f 19))),
  ((x 31), .inr (0, [.ref (x 26), .ref (x 21), .ref (x 32), .int (v 38), .ref (x 33), .ref (x 34), .int (v 39), .int (v 40)])),
  ((x 32), .inl (cy 1, 6, .inl (f 20))),
  ((x 33), .inl (cy 1, 448, .inl (f 21))),
  ((x 34), .inl (cy 1, 36, .inl (f 22))),
  ((x 35), .inr (8, [.ref (x 26), .ref (x 36), .ref (x 37), .ref (x 38), .ref (x 39), .int (v 41), .ref (x 40)])),
  ((x 36), .inl (cy 1, 30, .inl (f 23))),
  ((x 37), .inl (cy 3, 30, .inl (f 24))),
  ((x 38), .inl (cy 1, 30, .inl (f 25))),
  ((x 39), .inl (cy 1, 30, .inl (f 26))),
  ((x 40), .inl (cy 1, 21, .inl (f 27)))]
def xlo : Nat → Int := fun k => if k = 0 then 0 else if k = 1 then 0 else if k = 3 then 0 else if k = 4 then 0 else if k = 9 then 0 else if k = 10 then 0 else if k = 16 then 0 else if k = 18 then 0 else if k = 31 then 0 else if k = 32 then 0 else if k = 38 then 0 else if k = 41 then 0 else -2147483648
def xhi : Nat → Int := fun k => if k = 0 then 100000 else if k = 1 then 1600 else if k = 3 then 1600 else if k = 4 then 1600 else if k = 9 then 6 else if k = 10 then 6 else if k = 16 then 300 else if k = 18 then 300 else if k = 31 then 6 else if k = 32 then 6 else if k = 38 then 6 else if k = 41 then 30 else 2147483647
def XI (v : Nat → Int32) : Prop := ∀ k, k < 42 → xlo k ≤ (v k).toInt ∧ (v k).toInt ≤ xhi k
theorem XI.b {v : Nat → Int32} (h : XI v) (k : Nat) (hk : k < 42) : xlo k ≤ (v k).toInt ∧ (v k).toInt ≤ xhi k := h k hk
theorem XI.upd {v : Nat → Int32} {j : Nat} {x : Int32} (h : XI v) (h1 : xlo j ≤ x.toInt) (h2 : x.toInt ≤ xhi j) : XI (upd v j x) := by
  intro k hk
  show xlo k ≤ (if k = j then x else v k).toInt ∧ (if k = j then x else v k).toInt ≤ xhi k
  by_cases e : k = j
  · rw [if_pos e, e]; exact ⟨h1, h2⟩
  · rw [if_neg e]; exact h k hk
