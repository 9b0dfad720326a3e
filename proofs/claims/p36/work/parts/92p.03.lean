section
section
variable {NF : Nat}
theorem lsY {x y : Nat} (hx : x < 2 ^ 31) (hy : y < 2 ^ 31) {V : Nat → Int32} {F : Nat → Nat → Int32} {W : Int64} {K : Nat → Int64} : gsY_X11_lesser_1 NF (nI x) (nI y) V F W K = nI (min x y) := by
  simp only [gsY_X11_lesser_1]
  by_cases c : y ≤ x
  · rw [if_pos (nI_le c hx), show min x y = y by omega]
  · rw [if_neg (nI_ge (by omega) hy), show min x y = x by omega]
theorem grY {x y : Nat} (hx : x < 2 ^ 31) (hy : y < 2 ^ 31) {V : Nat → Int32} {F : Nat → Nat → Int32} {W : Int64} {K : Nat → Int64} : gsY_X11_greater_1 NF (nI x) (nI y) V F W K = nI (max x y) := by
  simp only [gsY_X11_greater_1]
  by_cases c : x ≤ y
  · rw [if_pos (nI_le c hy), show max x y = y by omega]
  · rw [if_neg (nI_ge (by omega) hx), show max x y = x by omega]
end
end
