theorem shl01_rng {x c : Int32} (h0 : 0 ≤ x.toInt) (h9 : x.toInt ≤ 1) (h1 : 0 ≤ c.toInt) (h2 : c.toInt ≤ 5) : 0 ≤ (x <<< (c &&& 31)).toInt ∧ (x <<< (c &&& 31)).toInt ≤ 32 := by
  rcases b01 h0 h9 with e | e
  · rw [e]; have := shl1_rng h1 h2; omega
  · rw [e]
    rcases (show c.toInt = 0 ∨ c.toInt = 1 ∨ c.toInt = 2 ∨ c.toInt = 3 ∨ c.toInt = 4 ∨ c.toInt = 5 by omega) with h | h | h | h | h | h
    · rw [show c = 0 from Int32.toInt_inj.mp h]; decide
    · rw [show c = 1 from Int32.toInt_inj.mp h]; decide
    · rw [show c = 2 from Int32.toInt_inj.mp h]; decide
    · rw [show c = 3 from Int32.toInt_inj.mp h]; decide
    · rw [show c = 4 from Int32.toInt_inj.mp h]; decide
    · rw [show c = 5 from Int32.toInt_inj.mp h]; decide
theorem shl1_rng6 {c : Int32} (h1 : 0 ≤ c.toInt) (h2 : c.toInt ≤ 6) : 1 ≤ ((1 : Int32) <<< (c &&& 31)).toInt ∧ ((1 : Int32) <<< (c &&& 31)).toInt ≤ 64 := by
  rcases (show c.toInt ≤ 5 ∨ c.toInt = 6 by omega) with h | h
  · have := shl1_rng h1 h; omega
  · rw [show c = 6 from Int32.toInt_inj.mp h]; decide
theorem and_left {x y : Int32} (h1 : 0 ≤ x.toInt) (h2 : x.toInt ≤ 63) : 0 ≤ (x &&& y).toInt ∧ (x &&& y).toInt ≤ 63 := by
  obtain ⟨a, ha, rfl⟩ := nI_ofI h1
  rw [nI_toInt ha] at h2
  have e : nI a &&& y = nI ((nI a &&& y).toBitVec.toNat) := by
    apply Int32.toBitVec_inj.mp
    show (nI a &&& y).toBitVec = BitVec.ofNat 32 ((nI a &&& y).toBitVec.toNat)
    rw [BitVec.ofNat_toNat, BitVec.setWidth_eq]
  have l : (nI a &&& y).toBitVec.toNat ≤ a := by
    show ((nI a).toBitVec &&& y.toBitVec).toNat ≤ a
    rw [BitVec.toNat_and, pk_tn (by omega)]
    exact Nat.and_le_left
  rw [e, nI_toInt (by omega)]
  omega
