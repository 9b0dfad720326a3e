section
section
variable {NF : Nat} {v : Nat → Int32} {f : Nat → Nat → Int32} {v1 : Nat → Int32} {f1 : Nat → Nat → Int32} {w1 : Int64} {g : Nat → Int64} {r r' : Int32} {u' : (Nat → Int32) × (Nat → Nat → Int32) × Int64 × (Nat → Int64)}
theorem nI_nlt0 {n : Nat} (h : n < 2 ^ 31) : ¬ nI n < 0 := fun z => by
  rw [← nI_0] at z
  have := (nI_ltI h (by decide)).mp z
  omega
theorem sbT : ∀ W, W < 64 → ∀ j, j < 64 → nI j &&& (nI W ^^^ (-1)) = (0 : Int32) → j ≤ W ∧ ∀ i, i < 6 → j / 2 ^ i % 2 = 1 → W / 2 ^ i % 2 = 1 := by decide +kernel
def pcN (T : Nat) : Nat := T % 2 + T / 2 % 2 + T / 4 % 2 + T / 8 % 2 + T / 16 % 2 + T / 32 % 2
theorem bcX : ∀ T, T < 64 → gsX_J6_bitCount_0f7a4_1 0 (nI T) (fun _ => 0) (fun _ _ => 0) = nI (pcN T) := by decide +kernel
theorem bcX1 {T : Nat} (hT : T < 64) : gsX_J6_bitCount_0f7a4_1 NF (nI T) v f = nI (pcN T) := bcX T hT
theorem pcN_le (T : Nat) : pcN T ≤ 6 := by unfold pcN; omega
def pcA (T : Nat) : Nat → Nat
  | 0 => 0
  | j + 1 => pcA T j + T / 2 ^ j % 2
theorem pcA6 : ∀ T, T < 64 → pcA T 6 = pcN T := by decide +kernel
theorem mbY {T : Nat} (hT : T < 64) (F : Nat → Nat → Int32) : gsY_X11_members_1 NF (nI T) v1 F w1 g = nI (pcN T) := by
  rw [← pcA6 T hT]
  refine acc0 (NF := NF) (L := fun fu s i => gsY_X11_members_1_L1 NF (nI T) fu s i) (n := 6) (fun j => nI (pcA T j)) (by omega) (fun fu j hj => ?_) (fun fu => ?_)
  · have nle : ¬ (6 : Int32) ≤ nI j := lit_nle (b := 6) (by decide) hj (by decide)
    obtain ⟨B1, _⟩ := bitT T hT j hj
    show gsY_X11_members_1_L1 NF (nI T) (fu + 1) (nI (pcA T j)) (nI j) = gsY_X11_members_1_L1 NF (nI T) fu (nI (pcA T j + T / 2 ^ j % 2)) (nI (j + 1))
    conv => lhs; unfold gsY_X11_members_1_L1
    simp only [B1, nI_add, nI_1]
    rw [if_neg nle]
  · show gsY_X11_members_1_L1 NF (nI T) (fu + 1) (nI (pcA T 6)) (nI 6) = _
    simp only [gsY_X11_members_1_L1]
    rw [if_pos (show (6 : Int32) ≤ nI 6 by decide)]
def frN (p : Int32) (W : Nat) (x : Nat → Int32) (a : Nat) : Nat → Option Nat
  | 0 => none
  | j + 1 => match frN p W x a j with
    | none => if nI j &&& (nI W ^^^ (-1)) = (0 : Int32) then (if wdS j x a < p then none else some j) else none
    | some k => if nI j &&& (nI W ^^^ (-1)) = (0 : Int32) then (if wdS j x a < p then some k else (if pcN k ≤ pcN j then some k else some j)) else some k
def oI : Option Nat → Int32
  | none => -1
  | some k => nI k
theorem frN_lt {p : Int32} {W : Nat} {x : Nat → Int32} {a : Nat} : ∀ j k, frN p W x a j = some k → k < j := by
  intro j
  induction j with
  | zero => intro k h; have h : (none : Option Nat) = some k := h; cases h
  | succ j ih =>
    intro k h
    simp only [frN] at h
    revert h
    rcases e : frN p W x a j with _ | k0
    · show (if nI j &&& (nI W ^^^ (-1)) = (0 : Int32) then (if wdS j x a < p then none else some j) else none) = some k → _
      split
      · split
        · intro h; cases h
        · intro h; cases h; omega
      · intro h; cases h
    · have h0 := ih k0 e
      show (if nI j &&& (nI W ^^^ (-1)) = (0 : Int32) then (if wdS j x a < p then some k0 else (if pcN k0 ≤ pcN j then some k0 else some j)) else some k0) = some k → _
      split
      · split
        · intro h; cases h; omega
        · split
          · intro h; cases h; omega
          · intro h; cases h; omega
      · intro h; cases h; omega
theorem frN_up {p : Int32} {W : Nat} {x : Nat → Int32} {a : Nat} (hW : W < 64) : ∀ d, W + 1 + d ≤ 64 → frN p W x a (W + 1 + d) = frN p W x a (W + 1) := by
  intro d
  induction d with
  | zero => intro _; rfl
  | succ d ih =>
    intro h
    have ns : ¬ nI (W + 1 + d) &&& (nI W ^^^ (-1)) = (0 : Int32) := fun z => by
      have := (sbT W hW (W + 1 + d) (by omega) z).1
      omega
    have ih := ih (by omega)
    show frN p W x a ((W + 1 + d) + 1) = _
    rw [← ih]
    simp only [frN]
    rcases frN p W x a (W + 1 + d) with _ | k
    · exact if_neg ns
    · exact if_neg ns
theorem QC.frontX {a b : Nat} {A R : Nat → Nat → Int32} (Q : QC NF v f v1 f1 w1 g a b A R) (p : Int32) : gsX_X2_frontOf_1 NF p v f = oI (frN p (bts (wrB (f 15)) a) (f 15) a 64) := by
  have a3 := Q.a3
  have h64 : bts (wrB (f 15)) a < 64 := by
    have h1 := bts_lt (wrB (f 15)) a a3
    have h2 := p2le a a3
    omega
  have hs : ∀ j, j < a → bts (wrB (f 15)) a / 2 ^ j % 2 = 1 → ¬ f 15 (6 + j) = -1 := fun j hj q z => by
    rw [bts_bit _ a a3 j hj, wrB_0 z] at q
    exact absurd q (by decide)
  simp only [gsX_X2_frontOf_1, Q.wearX]
  generalize bts (wrB (f 15)) a = W at h64 hs ⊢
  refine acc0 (NF := NF) (L := fun fu s i => gsX_X2_frontOf_1_L4 NF p v f (nI W ^^^ (-1)) fu s i) (n := 64) (fun j => oI (frN p W (f 15) a j)) (by omega) (fun fu j hj => ?_) (fun fu => ?_)
  · have nle : ¬ (64 : Int32) ≤ nI j := lit_nle (b := 64) (by decide) hj (by decide)
    show gsX_X2_frontOf_1_L4 NF p v f (nI W ^^^ (-1)) (fu + 1) (oI (frN p W (f 15) a j)) (nI j) = gsX_X2_frontOf_1_L4 NF p v f (nI W ^^^ (-1)) fu (oI (frN p W (f 15) a (j + 1))) (nI (j + 1))
    have lt := frN_lt (p := p) (W := W) (x := f 15) (a := a) j
    simp only [frN]
    revert lt
    rcases frN p W (f 15) a j with _ | k
    · intro _
      by_cases z : nI j &&& (nI W ^^^ (-1)) = (0 : Int32)
      · have wd := Q.wideX hj (fun i hi q => hs i hi ((sbT W h64 j hj z).2 i (by omega) q))
        by_cases z1 : wdS j (f 15) a < p
        · simp only [if_pos z, if_pos z1]
          conv => lhs; unfold gsX_X2_frontOf_1_L4
          simp only [oI, if_neg nle, if_true, z, wd, if_pos z1, nI_1]
        · simp only [if_pos z, if_neg z1]
          conv => lhs; unfold gsX_X2_frontOf_1_L4
          simp only [oI, if_neg nle, if_true, z, wd, if_neg z1, nI_1]
      · simp only [if_neg z]
        conv => lhs; unfold gsX_X2_frontOf_1_L4
        simp only [oI, if_neg nle, if_true, if_neg z, nI_1]
    · intro lt
      have hk : k < 64 := by have := lt k rfl; omega
      have nk : ¬ nI k = -1 := nI_nm1 (by omega)
      have p1 := pcN_le k
      have p2 := pcN_le j
      by_cases z2 : pcN k ≤ pcN j
      · have y2 : nI (pcN k) ≤ nI (pcN j) := nI_le z2 (by omega)
        have e0 : ∀ (c d : Prop) [Decidable c] [Decidable d], (if c then (if d then some k else (if pcN k ≤ pcN j then some k else some j)) else some k) = some k := fun c d _ _ => by
          rw [if_pos z2]
          split
          · split <;> rfl
          · rfl
        simp only [e0]
        conv => lhs; unfold gsX_X2_frontOf_1_L4
        simp only [oI, if_neg nle, if_neg nk, bcX1 hj, bcX1 hk, if_pos y2, nI_1]
        split <;> rfl
      · have y2 : ¬ nI (pcN k) ≤ nI (pcN j) := nI_ge (by omega) (by omega)
        by_cases z : nI j &&& (nI W ^^^ (-1)) = (0 : Int32)
        · have wd := Q.wideX hj (fun i hi q => hs i hi ((sbT W h64 j hj z).2 i (by omega) q))
          by_cases z1 : wdS j (f 15) a < p
          · simp only [if_pos z, if_pos z1]
            conv => lhs; unfold gsX_X2_frontOf_1_L4
            simp only [oI, if_neg nle, if_neg nk, bcX1 hj, bcX1 hk, if_neg y2, z, if_true, wd, if_pos z1, nI_1]
          · simp only [if_pos z, if_neg z1, if_neg z2]
            conv => lhs; unfold gsX_X2_frontOf_1_L4
            simp only [oI, if_neg nle, if_neg nk, bcX1 hj, bcX1 hk, if_neg y2, z, if_true, wd, if_neg z1, nI_1]
        · simp only [if_neg z]
          conv => lhs; unfold gsX_X2_frontOf_1_L4
          simp only [oI, if_neg nle, if_neg nk, bcX1 hj, bcX1 hk, if_neg y2, if_neg z, nI_1]
  · show gsX_X2_frontOf_1_L4 NF p v f (nI W ^^^ (-1)) (fu + 1) (oI (frN p W (f 15) a 64)) (nI 64) = _
    conv => lhs; unfold gsX_X2_frontOf_1_L4
    rw [if_pos (show (64 : Int32) ≤ nI 64 by decide)]
def frR (p2 : Int32) : Option Nat → Int32
  | none => -1
  | some k => if p2 = 0 then nI (pcN k) else nI k
theorem QC.frontY {a b : Nat} {A R : Nat → Nat → Int32} (Q : QC NF v f v1 f1 w1 g a b A R) (p p2 : Int32) : gsY_X11_front_1_L17 NF p p2 v1 A w1 g (nI (bts (wrB (f 15)) a)) (4294967296 + NF) (-1) 0 = (frR p2 (frN p (bts (wrB (f 15)) a) (f 15) a 64), v1, A, w1, g) := by
  have a3 := Q.a3
  have h64 : bts (wrB (f 15)) a < 64 := by
    have h1 := bts_lt (wrB (f 15)) a a3
    have h2 := p2le a a3
    omega
  have hs : ∀ j, j < a → bts (wrB (f 15)) a / 2 ^ j % 2 = 1 → ¬ f 15 (6 + j) = -1 := fun j hj q z => by
    rw [bts_bit _ a a3 j hj, wrB_0 z] at q
    exact absurd q (by decide)
  generalize bts (wrB (f 15)) a = W at h64 hs ⊢
  have eu := frN_up (p := p) (x := f 15) (a := a) h64 (63 - W) (by omega)
  rw [show W + 1 + (63 - W) = 64 by omega] at eu
  rw [eu]
  refine lpQ (S := Int32) (fun fu i s => gsY_X11_front_1_L17 NF p p2 v1 A w1 g (nI W) fu s i) (fun r => r = (frR p2 (frN p W (f 15) a (W + 1)), v1, A, w1, g)) (fun j s => s = oI (frN p W (f 15) a j)) (W + 1) ?_ ?_ (W + 1) 0 (4294967296 + NF) (-1) (by omega) (by omega) rfl
  · intro fu j s hj hs'
    have hs' : s = oI (frN p W (f 15) a j) := hs'
    subst hs'
    refine Or.inl ⟨oI (frN p W (f 15) a (j + 1)), rfl, ?_⟩
    have nlt : ¬ nI W < nI j := fun z => by have := (nI_ltI (by omega) (by omega)).mp z; omega
    have hj6 : j < 64 := by omega
    show gsY_X11_front_1_L17 NF p p2 v1 A w1 g (nI W) (fu + 1) (oI (frN p W (f 15) a j)) (nI j) = gsY_X11_front_1_L17 NF p p2 v1 A w1 g (nI W) fu (oI (frN p W (f 15) a (j + 1))) (nI (j + 1))
    have lt := frN_lt (p := p) (W := W) (x := f 15) (a := a) j
    simp only [frN]
    by_cases z : nI j &&& (nI W ^^^ (-1)) = (0 : Int32)
    · have wd := Q.wideY hj6 (fun i hi q => hs i hi ((sbT W h64 j hj6 z).2 i (by omega) q))
      by_cases z1 : wdS j (f 15) a < p
      · simp only [if_pos z, if_pos z1]
        conv => lhs; unfold gsY_X11_front_1_L17
        simp only [if_neg nlt, z, if_true, wd, if_pos z1, nI_1]
        rcases frN p W (f 15) a j with _ | k <;> rfl
      · simp only [if_pos z, if_neg z1]
        revert lt
        rcases frN p W (f 15) a j with _ | k
        · intro _
          conv => lhs; unfold gsY_X11_front_1_L17
          simp only [oI, if_neg nlt, z, if_true, wd, if_neg z1, if_pos m1_lt, nI_1]
        · intro lt
          have hk : k < 64 := by have := lt k rfl; omega
          have p1 := pcN_le k
          have p2' := pcN_le j
          have k0 : ¬ nI k < 0 := nI_nlt0 (by omega)
          by_cases z2 : pcN k ≤ pcN j
          · have y2 : nI (pcN k) ≤ nI (pcN j) := nI_le z2 (by omega)
            simp only [if_pos z2]
            conv => lhs; unfold gsY_X11_front_1_L17
            simp only [oI, if_neg nlt, z, if_true, wd, if_neg z1, if_neg k0, mbY hj6, mbY hk, if_pos y2, nI_1]
          · have y2 : ¬ nI (pcN k) ≤ nI (pcN j) := nI_ge (by omega) (by omega)
            simp only [if_neg z2]
            conv => lhs; unfold gsY_X11_front_1_L17
            simp only [oI, if_neg nlt, z, if_true, wd, if_neg z1, if_neg k0, mbY hj6, mbY hk, if_neg y2, nI_1]
    · simp only [if_neg z]
      conv => lhs; unfold gsY_X11_front_1_L17
      simp only [if_neg nlt, if_neg z, nI_1]
      rcases frN p W (f 15) a j with _ | k <;> rfl
  · intro fu s hs'
    have hs' : s = oI (frN p W (f 15) a (W + 1)) := hs'
    subst hs'
    have lt := frN_lt (p := p) (W := W) (x := f 15) (a := a) (W + 1)
    have yl : nI W < nI (W + 1) := nI_lt (by omega) (by omega)
    show gsY_X11_front_1_L17 NF p p2 v1 A w1 g (nI W) (fu + 1) (oI (frN p W (f 15) a (W + 1))) (nI (W + 1)) = (frR p2 (frN p W (f 15) a (W + 1)), v1, A, w1, g)
    revert lt
    rcases frN p W (f 15) a (W + 1) with _ | k
    · intro _
      simp only [gsY_X11_front_1_L17, oI, frR, if_pos yl]
      exact if_neg (show ¬ (0 : Int32) ≤ -1 by decide)
    · intro lt
      have hk : k < 64 := by have := lt k rfl; omega
      have k0 : (0 : Int32) ≤ nI k := lit_le (b := 0) (by decide) (by omega) (by omega)
      simp only [gsY_X11_front_1_L17, oI, frR, if_pos yl, if_pos k0, mbY hk]
      split <;> rfl
theorem FREL.front (h : FREL v f v1 f1) {p p2 : Int32} (e : gsX_X10_front_1 NF p p2 v f = r) (e' : gsY_X11_front_1 NF p p2 v1 f1 w1 g = (r', u')) : r = r' := by
  obtain ⟨a, b, A, R, Q⟩ := h.qc (NF := NF) w1 g
  by_cases c0 : p < 0
  · simp only [gsX_X10_front_1, if_pos c0] at e
    simp only [gsY_X11_front_1, gsY_X11_isIn_1, if_pos c0, ite01] at e'
    cases e'
    exact e.symm
  · by_cases c1 : (999 : Int32) < p
    · simp only [gsX_X10_front_1, if_neg c0, if_pos c1] at e
      simp only [gsY_X11_front_1, gsY_X11_isIn_1, if_neg c0, if_pos c1, ite01] at e'
      cases e'
      exact e.symm
    · by_cases c2 : p2 < 0
      · simp only [gsX_X10_front_1, if_neg c0, if_neg c1, if_pos c2] at e
        simp only [gsY_X11_front_1, gsY_X11_isIn_1, if_neg c0, if_neg c1, if_pos c2, ite01, ite11, if_true] at e'
        cases e'
        exact e.symm
      · by_cases c3 : p2 ≤ 1
        · have c3' : ¬ (1 : Int32) < p2 := fun z => by
            have z1 := (fa_lt _ _).mp z
            have z2 := (fa_le _ _).mp c3
            omega
          simp only [gsX_X10_front_1, if_neg c0, if_neg c1, if_neg c2, if_pos c3, Q.frontX] at e
          simp only [gsY_X11_front_1, gsY_X11_isIn_1, if_neg c0, if_neg c1, if_neg c2, if_neg c3', ite11, if_true, Q.fl, Q.wearY, Q.frontY] at e'
          cases e'
          rw [← e]
          have lt := frN_lt (p := p) (W := bts (wrB (f 15)) a) (x := f 15) (a := a) 64
          revert lt
          rcases frN p (bts (wrB (f 15)) a) (f 15) a 64 with _ | k
          · intro _
            simp only [oI, frR, if_true]
            split <;> rfl
          · intro lt
            have hk : k < 64 := lt k rfl
            simp only [oI, frR, if_neg (nI_nm1 (show k < 2 ^ 31 by omega)), bcX1 hk]
            by_cases c4 : p2 = 1
            · rw [if_pos c4, if_neg (by rw [c4]; decide)]
            · have c5 : p2 = 0 := by
                apply (fa_eq _ _).mpr
                have z1 : ¬ p2.toInt < (0 : Int32).toInt := fun z => c2 ((fa_lt _ _).mpr z)
                have z2 := (fa_le _ _).mp c3
                have z3 : ¬ p2.toInt = (1 : Int32).toInt := fun z => c4 ((fa_eq _ _).mpr z)
                have o1 : ((1 : Int32)).toInt = 1 := by decide
                have o0 : ((0 : Int32)).toInt = 0 := by decide
                rw [o1] at z2 z3
                rw [o0] at z1 ⊢
                omega
              rw [if_neg c4, if_pos c5]
        · have c3' : (1 : Int32) < p2 := lt_of_nle c3
          simp only [gsX_X10_front_1, if_neg c0, if_neg c1, if_neg c2, if_neg c3] at e
          simp only [gsY_X11_front_1, gsY_X11_isIn_1, if_neg c0, if_neg c1, if_neg c2, if_pos c3', ite01, ite11, if_true] at e'
          cases e'
          exact e.symm
end
end
section
section
variable {NF : Nat}
theorem lsY {x y : Nat} (hx : x < 2 ^ 31) (hy : y < 2 ^ 31) {V : Nat → Int32} {F : Nat → Nat → Int32} {W : Int64} {K : Nat → Int64} : gsY_X11_lesser_1 NF (nI x) (nI y) V F W K = nI (min x y) := by
  simp only [gsY_X11_lesser_1]
  by_cases c : y ≤ x
  · rw [if_pos (nI_le c hx), show min x y = y by omega]
  · rw [if_neg (nI_ge (by omega) hy), show min x y = x by omega]
theorem grY {x y : Nat} (hx : x < 2 ^ 31) (hy : y < 2 ^ 31) {V : Nat → Int32} {F : Nat → Nat → Int32} {W : Int64} {K : Nat → Int64} : gsY_X11_greater_1 NF (nI x) (nI y) V F W K = nI (max x y) := by
  simp only [gsY_X11_greater_1]
  by_cases c : x ≤ y
  · rw [if_pos (nI_le c hy), show max x y = y by omega]
  · rw [if_neg (nI_ge (by omega) hx), show max x y = x by omega]
end
end
