section
section
variable {NF : Nat} {v : Nat → Int32} {f : Nat → Nat → Int32} {v1 : Nat → Int32} {f1 : Nat → Nat → Int32} {w1 : Int64} {g : Nat → Int64} {r r' : Int32} {u' : (Nat → Int32) × (Nat → Nat → Int32) × Int64 × (Nat → Int64)}
theorem nI_nlt0 {n : Nat} (h : n < 2 ^ 31) : ¬ nI n < 0 := fun z => by
  rw [← nI_0] at z
  have := (nI_ltI h (by decide)).mp z
  omega
theorem sbT : ∀ W, W < 64 → ∀ j, j < 64 → nI j &&& (nI W ^^^ (-1)) = (0 : Int32) → j ≤ W ∧ ∀ i, i < 6 → j / 2 ^ i % 2 = 1 → W / 2 ^ i % 2 = 1 := by decide +kernel
def pcN (T : Nat) : Nat := T % 2 + T / 2 % 2 + T / 4 % 2 + T / 8 % 2 + T / 16 % 2 + T / 32 % 2
theorem bcX : ∀ T, T < 64 → gsX_J6_bitCount_0f7a4_1 0 (nI T) (fun _ => 0) (fun _ _ => 0) = nI (pcN T) := by decide +kernel
theorem bcX1 {T : Nat} (hT : T < 64) : gsX_J6_bitCount_0f7a4_1 NF (nI T) v f = nI (pcN T) := bcX T hT
theorem pcN_le (T : Nat) : pcN T ≤ 6 := by unfold pcN; omega
def pcA (T : Nat) : Nat → Nat
  | 0 => 0
  | j + 1 => pcA T j + T / 2 ^ j % 2
theorem pcA6 : ∀ T, T < 64 → pcA T 6 = pcN T := by decide +kernel
theorem mbY {T : Nat} (hT : T < 64) (F : Nat → Nat → Int32) : gsY_X11_members_1 NF (nI T) v1 F w1 g = nI (pcN T) := by
  rw [← pcA6 T hT]
  refine acc0 (NF := NF) (L := fun fu s i => gsY_X11_members_1_L1 NF (nI T) fu s i) (n := 6) (fun j => nI (pcA T j)) (by omega) (fun fu j hj => ?_) (fun fu => ?_)
  · have nle : ¬ (6 : Int32) ≤ nI j := lit_nle (b := 6) (by decide) hj (by decide)
    obtain ⟨B1, _⟩ := bitT T hT j hj
    show gsY_X11_members_1_L1 NF (nI T) (fu + 1) (nI (pcA T j)) (nI j) = gsY_X11_members_1_L1 NF (nI T) fu (nI (pcA T j + T / 2 ^ j % 2)) (nI (j + 1))
    conv => lhs; unfold gsY_X11_members_1_L1
    simp only [B1, nI_add, nI_1]
    rw [if_neg nle]
  · show gsY_X11_members_1_L1 NF (nI T) (fu + 1) (nI (pcA T 6)) (nI 6) = _
    simp only [gsY_X11_members_1_L1]
    rw [if_pos (show (6 : Int32) ≤ nI 6 by decide)]
def frN (p : Int32) (W : Nat) (x : Nat → Int32) (a : Nat) : Nat → Option Nat
  | 0 => none
  | j + 1 => match frN p W x a j with
    | none => if nI j &&& (nI W ^^^ (-1)) = (0 : Int32) then (if wdS j x a < p then none else some j) else none
    | some k => if nI j &&& (nI W ^^^ (-1)) = (0 : Int32) then (if wdS j x a < p then some k else (if pcN k ≤ pcN j then some k else some j)) else some k
def oI : Option Nat → Int32
  | none => -1
  | some k => nI k
theorem frN_lt {p : Int32} {W : Nat} {x : Nat → Int32} {a : Nat} : ∀ j k, frN p W x a j = some k → k < j := by
  intro j
  induction j with
  | zero => intro k h; have h : (none : Option Nat) = some k := h; cases h
  | succ j ih =>
    intro k h
    simp only [frN] at h
    revert h
    rcases e : frN p W x a j with _ | k0
    · show (if nI j &&& (nI W ^^^ (-1)) = (0 : Int32) then (if wdS j x a < p then none else some j) else none) = some k → _
      split
      · split
        · intro h; cases h
        · intro h; cases h; omega
      · intro h; cases h
    · have h0 := ih k0 e
      show (if nI j &&& (nI W ^^^ (-1)) = (0 : Int32) then (if wdS j x a < p then some k0 else (if pcN k0 ≤ pcN j then some k0 else some j)) else some k0) = some k → _
      split
      · split
        · intro h; cases h; omega
        · split
          · intro h; cases h; omega
          · intro h; cases h; omega
      · intro h; cases h; omega
theorem frN_up {p : Int32} {W : Nat} {x : Nat → Int32} {a : Nat} (hW : W < 64) : ∀ d, W + 1 + d ≤ 64 → frN p W x a (W + 1 + d) = frN p W x a (W + 1) := by
  intro d
  induction d with
  | zero => intro _; rfl
  | succ d ih =>
    intro h
    have ns : ¬ nI (W + 1 + d) &&& (nI W ^^^ (-1)) = (0 : Int32) := fun z => by
      have := (sbT W hW (W + 1 + d) (by omega) z).1
      omega
    have ih := ih (by omega)
    show frN p W x a ((W + 1 + d) + 1) = _
    rw [← ih]
    simp only [frN]
    rcases frN p W x a (W + 1 + d) with _ | k
    · exact if_neg ns
    · exact if_neg ns
theorem QC.frontX {a b : Nat} {A R : Nat → Nat → Int32} (Q : QC NF v f v1 f1 w1 g a b A R) (p : Int32) : gsX_X2_frontOf_1 NF p v f = oI (frN p (bts (wrB (f 15)) a) (f 15) a 64) := by
  have a3 := Q.a3
  have h64 : bts (wrB (f 15)) a < 64 := by
    have h1 := bts_lt (wrB (f 15)) a a3
    have h2 := p2le a a3
    omega
  have hs : ∀ j, j < a → bts (wrB (f 15)) a / 2 ^ j % 2 = 1 → ¬ f 15 (6 + j) = -1 := fun j hj q z => by
    rw [bts_bit _ a a3 j hj, wrB_0 z] at q
    exact absurd q (by decide)
  simp only [gsX_X2_frontOf_1, Q.wearX]
  generalize bts (wrB (f 15)) a = W at h64 hs ⊢
  refine acc0 (NF := NF) (L := fun fu s i => gsX_X2_frontOf_1_L4 NF p v f (nI W ^^^ (-1)) fu s i) (n := 64) (fun j => oI (frN p W (f 15) a j)) (by omega) (fun fu j hj => ?_) (fun fu => ?_)
  · have nle : ¬ (64 : Int32) ≤ nI j := lit_nle (b := 64) (by decide) hj (by decide)
    show gsX_X2_frontOf_1_L4 NF p v f (nI W ^^^ (-1)) (fu + 1) (oI (frN p W (f 15) a j)) (nI j) = gsX_X2_frontOf_1_L4 NF p v f (nI W ^^^ (-1)) fu (oI (frN p W (f 15) a (j + 1))) (nI (j + 1))
    have lt := frN_lt (p := p) (W := W) (x := f 15) (a := a) j
    simp only [frN]
    revert lt
    rcases frN p W (f 15) a j with _ | k
    · intro _
      by_cases z : nI j &&& (nI W ^^^ (-1)) = (0 : Int32)
      · have wd := Q.wideX hj (fun i hi q => hs i hi ((sbT W h64 j hj z).2 i (by omega) q))
        by_cases z1 : wdS j (f 15) a < p
        · simp only [if_pos z, if_pos z1]
          conv => lhs; unfold gsX_X2_frontOf_1_L4
          simp only [oI, if_neg nle, if_true, z, wd, if_pos z1, nI_1]
        · simp only [if_pos z, if_neg z1]
          conv => lhs; unfold gsX_X2_frontOf_1_L4
          simp only [oI, if_neg nle, if_true, z, wd, if_neg z1, nI_1]
      · simp only [if_neg z]
        conv => lhs; unfold gsX_X2_frontOf_1_L4
        simp only [oI, if_neg nle, if_true, if_neg z, nI_1]
    · intro lt
      have hk : k < 64 := by have := lt k rfl; omega
      have nk : ¬ nI k = -1 := nI_nm1 (by omega)
      have p1 := pcN_le k
      have p2 := pcN_le j
      by_cases z2 : pcN k ≤ pcN j
      · have y2 : nI (pcN k) ≤ nI (pcN j) := nI_le z2 (by omega)
        have e0 : ∀ (c d : Prop) [Decidable c] [Decidable d], (if c then (if d then some k else (if pcN k ≤ pcN j then some k else some j)) else some k) = some k := fun c d _ _ => by
          rw [if_pos z2]
          split
          · split <;> rfl
          · rfl
        simp only [e0]
        conv => lhs; unfold gsX_X2_frontOf_1_L4
        simp only [oI, if_neg nle, if_neg nk, bcX1 hj, bcX1 hk, if_pos y2, nI_1]
        split <;> rfl
      · have y2 : ¬ nI (pcN k) ≤ nI (pcN j) := nI_ge (by omega) (by omega)
        by_cases z : nI j &&& (nI W ^^^ (-1)) = (0 : Int32)
        · have wd := Q.wideX hj (fun i hi q => hs i hi ((sbT W h64 j hj z).2 i (by omega) q))
          by_cases z1 : wdS j (f 15) a < p
          · simp only [if_pos z, if_pos z1]
            conv => lhs; unfold gsX_X2_frontOf_1_L4
            simp only [oI, if_neg nle, if_neg nk, bcX1 hj, bcX1 hk, if_neg y2, z, if_true, wd, if_pos z1, nI_1]
          · simp only [if_pos z, if_neg z1, if_neg z2]
            conv => lhs; unfold gsX_X2_frontOf_1_L4
            simp only [oI, if_neg nle, if_neg nk, bcX1 hj, bcX1 hk, if_neg y2, z, if_true, wd, if_neg z1, nI_1]
        · simp only [if_neg z]
          conv => lhs; unfold gsX_X2_frontOf_1_L4
          simp only [oI, if_neg nle, if_neg nk, bcX1 hj, bcX1 hk, if_neg y2, if_neg z, nI_1]
  · show gsX_X2_frontOf_1_L4 NF p v f (nI W ^^^ (-1)) (fu + 1) (oI (frN p W (f 15) a 64)) (nI 64) = _
    conv => lhs; unfold gsX_X2_frontOf_1_L4
    rw [if_pos (show (64 : Int32) ≤ nI 64 by decide)]
def frR (p2 : Int32) : Option Nat → Int32
  | none => -1
  | some k => if p2 = 0 then nI (pcN k) else nI k
theorem QC.frontY {a b : Nat} {A R : Nat → Nat → Int32} (Q : QC NF v f v1 f1 w1 g a b A R) (p p2 : Int32) : gsY_X11_front_1_L17 NF p p2 v1 A w1 g (nI (bts (wrB (f 15)) a)) (4294967296 + NF) (-1) 0 = (frR p2 (frN p (bts (wrB (f 15)) a) (f 15) a 64), v1, A, w1, g) := by
  have a3 := Q.a3
  have h64 : bts (wrB (f 15)) a < 64 := by
    have h1 := bts_lt (wrB (f 15)) a a3
    have h2 := p2le a a3
    omega
  have hs : ∀ j, j < a → bts (wrB (f 15)) a / 2 ^ j % 2 = 1 → ¬ f 15 (6 + j) = -1 := fun j hj q z => by
    rw [bts_bit _ a a3 j hj, wrB_0 z] at q
    exact absurd q (by decide)
  generalize bts (wrB (f 15)) a = W at h64 hs ⊢
  have eu := frN_up (p := p) (x := f 15) (a := a) h64 (63 - W) (by omega)
  rw [show W + 1 + (63 - W) = 64 by omega] at eu
  rw [eu]
  refine lpQ (S := Int32) (fun fu i s => gsY_X11_front_1_L17 NF p p2 v1 A w1 g (nI W) fu s i) (fun r => r = (frR p2 (frN p W (f 15) a (W + 1)), v1, A, w1, g)) (fun j s => s = oI (frN p W (f 15) a j)) (W + 1) ?_ ?_ (W + 1) 0 (4294967296 + NF) (-1) (by omega) (by omega) rfl
  · intro fu j s hj hs'
    have hs' : s = oI (frN p W (f 15) a j) := hs'
    subst hs'
    refine Or.inl ⟨oI (frN p W (f 15) a (j + 1)), rfl, ?_⟩
    have nlt : ¬ nI W < nI j := fun z => by have := (nI_ltI (by omega) (by omega)).mp z; omega
    have hj6 : j < 64 := by omega
    show gsY_X11_front_1_L17 NF p p2 v1 A w1 g (nI W) (fu + 1) (oI (frN p W (f 15) a j)) (nI j) = gsY_X11_front_1_L17 NF p p2 v1 A w1 g (nI W) fu (oI (frN p W (f 15) a (j + 1))) (nI (j + 1))
    have lt := frN_lt (p := p) (W := W) (x := f 15) (a := a) j
    simp only [frN]
    by_cases z : nI j &&& (nI W ^^^ (-1)) = (0 : Int32)
    · have wd := Q.wideY hj6 (fun i hi q => hs i hi ((sbT W h64 j hj6 z).2 i (by omega) q))
      by_cases z1 : wdS j (f 15) a < p
      · simp only [if_pos z, if_pos z1]
        conv => lhs; unfold gsY_X11_front_1_L17
        simp only [if_neg nlt, z, if_true, wd, if_pos z1, nI_1]
        rcases frN p W (f 15) a j with _ | k <;> rfl
      · simp only [if_pos z, if_neg z1]
        revert lt
        rcases frN p W (f 15) a j with _ | k
        · intro _
          conv => lhs; unfold gsY_X11_front_1_L17
          simp only [oI, if_neg nlt, z, if_true, wd, if_neg z1, if_pos m1_lt, nI_1]
        · intro lt
          have hk : k < 64 := by have := lt k rfl; omega
          have p1 := pcN_le k
          have p2' := pcN_le j
          have k0 : ¬ nI k < 0 := nI_nlt0 (by omega)
          by_cases z2 : pcN k ≤ pcN j
          · have y2 : nI (pcN k) ≤ nI (pcN j) := nI_le z2 (by omega)
            simp only [if_pos z2]
            conv => lhs; unfold gsY_X11_front_1_L17
            simp only [oI, if_neg nlt, z, if_true, wd, if_neg z1, if_neg k0, mbY hj6, mbY hk, if_pos y2, nI_1]
          · have y2 : ¬ nI (pcN k) ≤ nI (pcN j) := nI_ge (by omega) (by omega)
            simp only [if_neg z2]
            conv => lhs; unfold gsY_X11_front_1_L17
            simp only [oI, if_neg nlt, z, if_true, wd, if_neg z1, if_neg k0, mbY hj6, mbY hk, if_neg y2, nI_1]
    · simp only [if_neg z]
      conv => lhs; unfold gsY_X11_front_1_L17
      simp only [if_neg nlt, if_neg z, nI_1]
      rcases frN p W (f 15) a j with _ | k <;> rfl
  · intro fu s hs'
    have hs' : s = oI (frN p W (f 15) a (W + 1)) := hs'
    subst hs'
    have lt := frN_lt (p := p) (W := W) (x := f 15) (a := a) (W + 1)
    have yl : nI W < nI (W + 1) := nI_lt (by omega) (by omega)
    show gsY_X11_front_1_L17 NF p p2 v1 A w1 g (nI W) (fu + 1) (oI (frN p W (f 15) a (W + 1))) (nI (W + 1)) = (frR p2 (frN p W (f 15) a (W + 1)), v1, A, w1, g)
    revert lt
    rcases frN p W (f 15) a (W + 1) with _ | k
    · intro _
      simp only [gsY_X11_front_1_L17, oI, frR, if_pos yl]
      exact if_neg (show ¬ (0 : Int32) ≤ -1 by decide)
    · intro lt
      have hk : k < 64 := by have := lt k rfl; omega
      have k0 : (0 : Int32) ≤ nI k := lit_le (b := 0) (by decide) (by omega) (by omega)
      simp only [gsY_X11_front_1_L17, oI, frR, if_pos yl, if_pos k0, mbY hk]
      split <;> rfl
theorem FREL.front (h : FREL v f v1 f1) {p p2 : Int32} (e : gsX_X10_front_1 NF p p2 v f = r) (e' : gsY_X11_front_1 NF p p2 v1 f1 w1 g = (r', u')) : r = r' := by
  obtain ⟨a, b, A, R, Q⟩ := h.qc (NF := NF) w1 g
  by_cases c0 : p < 0
  · simp only [gsX_X10_front_1, if_pos c0] at e
    simp only [gsY_X11_front_1, gsY_X11_isIn_1, if_pos c0, ite01] at e'
    cases e'
    exact e.symm
  · by_cases c1 : (999 : Int32) < p
    · simp only [gsX_X10_front_1, if_neg c0, if_pos c1] at e
      simp only [gsY_X11_front_1, gsY_X11_isIn_1, if_neg c0, if_pos c1, ite01] at e'
      cases e'
      exact e.symm
    · by_cases c2 : p2 < 0
      · simp only [gsX_X10_front_1, if_neg c0, if_neg c1, if_pos c2] at e
        simp only [gsY_X11_front_1, gsY_X11_isIn_1, if_neg c0, if_neg c1, if_pos c2, ite01, ite11, if_true] at e'
        cases e'
        exact e.symm
      · by_cases c3 : p2 ≤ 1
        · have c3' : ¬ (1 : Int32) < p2 := fun z => by
            have z1 := (fa_lt _ _).mp z
            have z2 := (fa_le _ _).mp c3
            omega
          simp only [gsX_X10_front_1, if_neg c0, if_neg c1, if_neg c2, if_pos c3, Q.frontX] at e
          simp only [gsY_X11_front_1, gsY_X11_isIn_1, if_neg c0, if_neg c1, if_neg c2, if_neg c3', ite11, if_true, Q.fl, Q.wearY, Q.frontY] at e'
          cases e'
          rw [← e]
          have lt := frN_lt (p := p) (W := bts (wrB (f 15)) a) (x := f 15) (a := a) 64
          revert lt
          rcases frN p (bts (wrB (f 15)) a) (f 15) a 64 with _ | k
          · intro _
            simp only [oI, frR, if_true]
            split <;> rfl
          · intro lt
            have hk : k < 64 := lt k rfl
            simp only [oI, frR, if_neg (nI_nm1 (show k < 2 ^ 31 by omega)), bcX1 hk]
            by_cases c4 : p2 = 1
            · rw [if_pos c4, if_neg (by rw [c4]; decide)]
            · have c5 : p2 = 0 := by
                apply (fa_eq _ _).mpr
                have z1 : ¬ p2.toInt < (0 : Int32).toInt := fun z => c2 ((fa_lt _ _).mpr z)
                have z2 := (fa_le _ _).mp c3
                have z3 : ¬ p2.toInt = (1 : Int32).toInt := fun z => c4 ((fa_eq _ _).mpr z)
                have o1 : ((1 : Int32)).toInt = 1 := by decide
                have o0 : ((0 : Int32)).toInt = 0 := by decide
                rw [o1] at z2 z3
                rw [o0] at z1 ⊢
                omega
              rw [if_neg c4, if_pos c5]
        · have c3' : (1 : Int32) < p2 := lt_of_nle c3
          simp only [gsX_X10_front_1, if_neg c0, if_neg c1, if_neg c2, if_neg c3] at e
          simp only [gsY_X11_front_1, gsY_X11_isIn_1, if_neg c0, if_neg c1, if_neg c2, if_pos c3', ite01, ite11, if_true] at e'
          cases e'
          exact e.symm
end
end
section
section
variable {NF : Nat} {v : Nat → Int32} {f : Nat → Nat → Int32} {v1 : Nat → Int32} {f1 : Nat → Nat → Int32} {w1 : Int64} {g : Nat → Int64} {r r' : Int32} {u' : (Nat → Int32) × (Nat → Nat → Int32) × Int64 × (Nat → Int64)}
def wdN (T : Nat) (x : Nat → Int32) : Nat → Nat
  | 0 => 0
  | m + 1 => wdN T x m + (if T / 2 ^ m % 2 = 1 then nv (x (18 + nv (x (6 + m)))) else 0)
theorem QC.wdn {a b T : Nat} {A R : Nat → Nat → Int32} (Q : QC NF v f v1 f1 w1 g a b A R) (hs : ∀ j, j < a → T / 2 ^ j % 2 = 1 → ¬ f 15 (6 + j) = -1) : ∀ m, m ≤ a → wdS T (f 15) m = nI (wdN T (f 15) m) ∧ wdN T (f 15) m ≤ 99 * m := by
  intro m
  induction m with
  | zero => intro _; exact ⟨rfl, Nat.le_refl _⟩
  | succ m ih =>
    intro hm
    obtain ⟨i1, i2⟩ := ih (by omega)
    have b3 := Q.b3
    have em : wdS T (f 15) (m + 1) = (if T / 2 ^ m % 2 = 1 then wdS T (f 15) m + f 15 (18 + nv (f 15 (6 + m))) else wdS T (f 15) m) := rfl
    have en : wdN T (f 15) (m + 1) = wdN T (f 15) m + (if T / 2 ^ m % 2 = 1 then nv (f 15 (18 + nv (f 15 (6 + m)))) else 0) := rfl
    by_cases z : T / 2 ^ m % 2 = 1
    · rw [if_pos z] at em en
      obtain ⟨c, hc, q2⟩ := (Q.nw.1 m (by omega)).2.2.2.resolve_left (hs m (by omega) z)
      have ec : nv (f 15 (6 + m)) = c := by rw [q2]; exact nv_nI (by omega)
      obtain ⟨n1, n2⟩ := (Q.nw.2.1 c hc).2.1.2.nat (by decide)
      rw [ec] at em en
      rw [em, en, i1]
      constructor
      · rw [← nI_add, ← n2]
      · omega
    · rw [if_neg z] at em en
      rw [em, en, i1]
      exact ⟨rfl, by omega⟩
theorem wdN_sp {W S : Nat} {x : Nat → Int32} (hW : W < 64) (hS : S < 64) (hz : nI S &&& (nI W ^^^ (-1)) = (0 : Int32)) : ∀ m, m ≤ 6 → wdN W x m = wdN S x m + wdN (W &&& (63 ^^^ S)) x m := by
  intro m
  induction m with
  | zero => intro _; rfl
  | succ m ih =>
    intro hm
    have ih := ih (by omega)
    have e1 : ∀ T, wdN T x (m + 1) = wdN T x m + (if T / 2 ^ m % 2 = 1 then nv (x (18 + nv (x (6 + m)))) else 0) := fun _ => rfl
    have hb := andB W hW S hS m (by omega)
    have hsb := (sbT W hW S hS hz).2 m (by omega)
    rw [e1, e1, e1, ih, hb]
    by_cases z : S / 2 ^ m % 2 = 1
    · rw [hsb z, z]
      rw [if_pos rfl, if_neg (by decide)]
      omega
    · have z0 : S / 2 ^ m % 2 = 0 := by omega
      rw [z0, Nat.sub_zero, Nat.mul_one, if_neg (show ¬ (0 : Nat) = 1 by decide)]
      omega
def dfN (w s : Nat) : Nat := if 2 * s ≤ w then w - 2 * s else 2 * s - w
theorem ngT : ∀ a, a < 40 → ∀ b, b < 40 → 0 < 40 * a + b → ¬ (0 : Int32) ≤ -nI (40 * a + b) := by decide +kernel
theorem ng0 {n : Nat} (h : n < 1600) (h0 : 0 < n) : ¬ (0 : Int32) ≤ -nI n := by
  have t := ngT (n / 40) (by omega) (n % 40) (by omega)
  rw [show 40 * (n / 40) + n % 40 = n by omega] at t
  exact t h0
theorem nI_sub_n {a b : Nat} (h : a ≤ b) : nI a - nI b = -nI (b - a) := by
  rw [← nI_subI h, Int32.neg_sub]
theorem dfX {w s : Nat} (hw : w ≤ 594) (hs : s ≤ 594) : (if (0 : Int32) ≤ nI w - 2 * nI s then nI w - 2 * nI s else 0 - (nI w - 2 * nI s)) = nI (dfN w s) := by
  have e2 : (2 : Int32) * nI s = nI (2 * s) := nI_mulI 2 s
  rw [e2]
  unfold dfN
  by_cases c : 2 * s ≤ w
  · rw [nI_subI c, if_pos (show (0 : Int32) ≤ nI (w - 2 * s) from lit_le (b := 0) rfl (by omega) (by omega)), if_pos c]
  · rw [nI_sub_n (by omega), if_neg (ng0 (by omega) (by omega)), if_neg c]
    exact (nI_sub_neg 0 (2 * s - w)).trans (by rw [Nat.zero_add])
theorem dfY {w s t : Nat} (hw : w = s + t) (hb : w ≤ 594) {F : Nat → Nat → Int32} : gsY_X11_plain_1 NF (nI s - nI t) v1 F w1 g = nI (dfN w s) := by
  subst hw
  simp only [gsY_X11_plain_1]
  unfold dfN
  by_cases c : t ≤ s
  · rw [nI_subI c, if_pos (show (0 : Int32) ≤ nI (s - t) from lit_le (b := 0) rfl (by omega) (by omega))]
    by_cases d : 2 * s ≤ s + t
    · rw [if_pos d]; congr 1; omega
    · rw [if_neg d]; congr 1; omega
  · rw [nI_sub_n (by omega), if_neg (ng0 (by omega) (by omega)), Int32.neg_neg, if_pos (by omega)]
    congr 1; omega
theorem sb_lt {x y : Nat} (hx : x < 1600) (hy : y < 1600) : (nI x - nI y < 0 ↔ x < y) ∧ (nI x - nI y = 0 ↔ x = y) := by
  by_cases c : y ≤ x
  · rw [nI_subI c]
    refine ⟨⟨fun z => absurd z (nI_nlt0 (by omega)), fun z => by omega⟩, ⟨fun z => ?_, fun z => ?_⟩⟩
    · have z1 := (nI_eq (a := x - y) (b := 0) (by omega) (by omega)).mp z
      omega
    · rw [z, Nat.sub_self]; rfl
  · rw [nI_sub_n (by omega)]
    have ng := ng0 (n := y - x) (by omega) (by omega)
    refine ⟨⟨fun _ => by omega, fun _ => lt_of_nle ng⟩, ⟨fun z => ?_, fun z => by omega⟩⟩
    rw [z] at ng
    exact absurd (by decide : (0 : Int32) ≤ 0) ng
def wgN (W : Nat) (L : Int32) (x : Nat → Int32) (a : Nat) : Nat → Nat
  | 0 => W
  | j + 1 => if nI j &&& (nI W ^^^ (-1)) = (0 : Int32) then (if nI j &&& L = L then (if dfN (wdN W x a) (wdN j x a) < dfN (wdN W x a) (wdN (wgN W L x a j) x a) then j else (if dfN (wdN W x a) (wdN j x a) = dfN (wdN W x a) (wdN (wgN W L x a j) x a) then (if wgN W L x a j ≤ j then wgN W L x a j else j) else wgN W L x a j)) else wgN W L x a j) else wgN W L x a j
theorem sbW : ∀ W, W < 64 → nI W &&& (nI W ^^^ (-1)) = (0 : Int32) := by decide +kernel
theorem wgN_sb {W : Nat} {L : Int32} {x : Nat → Int32} {a : Nat} (hW : W < 64) : ∀ j, j ≤ 64 → wgN W L x a j < 64 ∧ nI (wgN W L x a j) &&& (nI W ^^^ (-1)) = (0 : Int32) := by
  intro j
  induction j with
  | zero => intro _; exact ⟨hW, sbW W hW⟩
  | succ j ih =>
    intro hj
    have ih := ih (by omega)
    simp only [wgN]
    by_cases z : nI j &&& (nI W ^^^ (-1)) = (0 : Int32)
    · have hh : j < 64 ∧ nI j &&& (nI W ^^^ (-1)) = (0 : Int32) := ⟨by omega, z⟩
      rw [if_pos z]
      split
      · split
        · exact hh
        · split
          · split
            · exact ih
            · exact hh
          · exact ih
      · exact ih
    · rw [if_neg z]; exact ih
theorem wgN_up {W : Nat} {L : Int32} {x : Nat → Int32} {a : Nat} (hW : W < 64) : ∀ d, W + 1 + d ≤ 64 → wgN W L x a (W + 1 + d) = wgN W L x a (W + 1) := by
  intro d
  induction d with
  | zero => intro _; rfl
  | succ d ih =>
    intro h
    have ns : ¬ nI (W + 1 + d) &&& (nI W ^^^ (-1)) = (0 : Int32) := fun z => by
      have := (sbT W hW (W + 1 + d) (by omega) z).1
      omega
    have ih := ih (by omega)
    show wgN W L x a ((W + 1 + d) + 1) = _
    rw [← ih]
    simp only [wgN]
    rw [if_neg ns]
theorem dfN_b {w s : Nat} (hw : w ≤ 594) (hs : s ≤ 594) : dfN w s < 1600 := by
  unfold dfN
  split <;> omega
theorem QC.diffX {a b W S : Nat} {A R : Nat → Nat → Int32} (Q : QC NF v f v1 f1 w1 g a b A R) (hW : W = bts (wrB (f 15)) a) (h64 : W < 64) (hs : ∀ j, j < a → W / 2 ^ j % 2 = 1 → ¬ f 15 (6 + j) = -1) (hS : S < 64) (hz : nI S &&& (nI W ^^^ (-1)) = (0 : Int32)) : gsX_X2_difference_1 NF (nI S) v f = nI (dfN (wdN W (f 15) a) (wdN S (f 15) a)) ∧ wdN W (f 15) a ≤ 594 ∧ wdN S (f 15) a ≤ 594 := by
  have a3 := Q.a3
  have hs2 : ∀ j, j < a → S / 2 ^ j % 2 = 1 → ¬ f 15 (6 + j) = -1 := fun j hj q => hs j hj ((sbT W h64 S hS hz).2 j (by omega) q)
  obtain ⟨e1, n1⟩ := Q.wdn hs a (Nat.le_refl _)
  obtain ⟨e2, n2⟩ := Q.wdn hs2 a (Nat.le_refl _)
  refine ⟨?_, by omega, by omega⟩
  simp only [gsX_X2_difference_1, Q.wearX, ← hW, Q.wideX h64 hs, Q.wideX hS hs2, e1, e2]
  exact dfX (by omega) (by omega)
def lwA (W : Nat) : Nat → Int32
  | 0 => 0
  | k + 1 => if W / 2 ^ (5 - k) % 2 = 1 then nI (2 ^ (5 - k)) else lwA W k
theorem lwX : ∀ W, W < 64 → nI W &&& -nI W = lwA W 6 := by decide +kernel
theorem shlT : ∀ i, i < 6 → (1 : Int32) <<< (nI i &&& 31) = nI (2 ^ i) := by decide
theorem QC.wingsX {a b W : Nat} {A R : Nat → Nat → Int32} (Q : QC NF v f v1 f1 w1 g a b A R) (hW : W = bts (wrB (f 15)) a) (h64 : W < 64) (hs : ∀ j, j < a → W / 2 ^ j % 2 = 1 → ¬ f 15 (6 + j) = -1) : gsX_X2_leftWing_1 NF v f = nI (wgN W (lwA W 6) (f 15) a 64) := by
  simp only [gsX_X2_leftWing_1, gsX_J6_lowestOneBit_0f7a4_1, Q.wearX, ← hW, lwX W h64]
  generalize lwA W 6 = L
  refine acc0 (NF := NF) (L := fun fu s i => gsX_X2_leftWing_1_L5 NF v f (nI W) L fu s i) (n := 64) (fun j => nI (wgN W L (f 15) a j)) (by omega) (fun fu j hj => ?_) (fun fu => ?_)
  · have nle : ¬ (64 : Int32) ≤ nI j := lit_nle (b := 64) rfl hj (by decide)
    show gsX_X2_leftWing_1_L5 NF v f (nI W) L (fu + 1) (nI (wgN W L (f 15) a j)) (nI j) = gsX_X2_leftWing_1_L5 NF v f (nI W) L fu (nI (wgN W L (f 15) a (j + 1))) (nI (j + 1))
    obtain ⟨k1, k2⟩ := wgN_sb (L := L) (x := f 15) (a := a) h64 j (by omega)
    simp only [wgN]
    generalize wgN W L (f 15) a j = k at k1 k2 ⊢
    by_cases z : nI j &&& (nI W ^^^ (-1)) = (0 : Int32)
    · by_cases z1 : nI j &&& L = L
      · obtain ⟨d1, d2, d3⟩ := Q.diffX hW h64 hs hj z
        obtain ⟨d4, _, d5⟩ := Q.diffX hW h64 hs k1 k2
        obtain ⟨s1, s2⟩ := sb_lt (dfN_b d2 d3) (dfN_b d2 d5)
        have ev : gsX_X2_isEvener_1 NF (nI j) (nI k) v f = (if dfN (wdN W (f 15) a) (wdN j (f 15) a) < dfN (wdN W (f 15) a) (wdN k (f 15) a) then 1 else (if dfN (wdN W (f 15) a) (wdN j (f 15) a) = dfN (wdN W (f 15) a) (wdN k (f 15) a) then (if k ≤ j then 0 else 1) else 0)) := by
          simp only [gsX_X2_isEvener_1, d1, d4]
          by_cases x1 : dfN (wdN W (f 15) a) (wdN j (f 15) a) < dfN (wdN W (f 15) a) (wdN k (f 15) a)
          · rw [if_pos x1, if_pos (s1.mpr x1)]
          · rw [if_neg x1, if_neg (fun q => x1 (s1.mp q))]
            by_cases x2 : dfN (wdN W (f 15) a) (wdN j (f 15) a) = dfN (wdN W (f 15) a) (wdN k (f 15) a)
            · rw [if_pos x2, if_pos (s2.mpr x2)]
              by_cases x3 : k ≤ j
              · rw [if_pos x3, if_pos (nI_le x3 (by omega))]
              · rw [if_neg x3, if_neg (nI_ge (by omega) (by omega))]
            · rw [if_neg x2, if_neg (fun q => x2 (s2.mp q))]
        simp only [if_pos z, if_pos z1]
        by_cases x1 : dfN (wdN W (f 15) a) (wdN j (f 15) a) < dfN (wdN W (f 15) a) (wdN k (f 15) a)
        · rw [if_pos x1] at ev ⊢
          conv => lhs; unfold gsX_X2_leftWing_1_L5
          simp only [if_neg nle, z, z1, if_true, ev, ite11, nI_1]
        · rw [if_neg x1] at ev ⊢
          by_cases x2 : dfN (wdN W (f 15) a) (wdN j (f 15) a) = dfN (wdN W (f 15) a) (wdN k (f 15) a)
          · rw [if_pos x2] at ev ⊢
            by_cases x3 : k ≤ j
            · rw [if_pos x3] at ev ⊢
              conv => lhs; unfold gsX_X2_leftWing_1_L5
              simp only [if_neg nle, z, z1, if_true, ev, ite01, nI_1]
            · rw [if_neg x3] at ev ⊢
              conv => lhs; unfold gsX_X2_leftWing_1_L5
              simp only [if_neg nle, z, z1, if_true, ev, ite11, nI_1]
          · rw [if_neg x2] at ev ⊢
            conv => lhs; unfold gsX_X2_leftWing_1_L5
            simp only [if_neg nle, z, z1, if_true, ev, ite01, nI_1]
      · simp only [if_pos z, if_neg z1]
        conv => lhs; unfold gsX_X2_leftWing_1_L5
        simp only [if_neg nle, z, if_true, if_neg z1, nI_1]
    · simp only [if_neg z]
      conv => lhs; unfold gsX_X2_leftWing_1_L5
      simp only [if_neg nle, if_neg z, nI_1]
  · show gsX_X2_leftWing_1_L5 NF v f (nI W) L (fu + 1) (nI (wgN W L (f 15) a 64)) (nI 64) = _
    conv => lhs; unfold gsX_X2_leftWing_1_L5
    rw [if_pos (show (64 : Int32) ≤ nI 64 by decide)]
theorem QC.wingsY17 {a b W : Nat} {A R : Nat → Nat → Int32} (Q : QC NF v f v1 f1 w1 g a b A R) (h64 : W < 64) (hs : ∀ j, j < a → W / 2 ^ j % 2 = 1 → ¬ f 15 (6 + j) = -1) (p L : Int32) : gsY_X11_wings_1_L17 NF p v1 A w1 g (nI W) L (4294967296 + NF) (nI W) (gsY_X11_wideOf_1 NF (nI W) v1 A w1 g) 0 = ((if p = 0 then nI (dfN (wdN W (f 15) a) (wdN (wgN W L (f 15) a 64) (f 15) a)) else nI (wgN W L (f 15) a 64)), v1, A, w1, g) := by
  have a3 := Q.a3
  obtain ⟨e1, n1⟩ := Q.wdn hs a (Nat.le_refl _)
  have eu := wgN_up (L := L) (x := f 15) (a := a) h64 (63 - W) (by omega)
  rw [show W + 1 + (63 - W) = 64 by omega] at eu
  rw [eu, Q.wideY h64 hs, e1]
  have e0 : wdN W (f 15) a = dfN (wdN W (f 15) a) (wdN (wgN W L (f 15) a 0) (f 15) a) := by
    show wdN W (f 15) a = dfN (wdN W (f 15) a) (wdN W (f 15) a)
    unfold dfN
    split <;> omega
  refine lpQ (S := Int32 × Int32) (fun fu i s => gsY_X11_wings_1_L17 NF p v1 A w1 g (nI W) L fu s.1 s.2 i) (fun r => r = ((if p = 0 then nI (dfN (wdN W (f 15) a) (wdN (wgN W L (f 15) a (W + 1)) (f 15) a)) else nI (wgN W L (f 15) a (W + 1))), v1, A, w1, g)) (fun j s => s = (nI (wgN W L (f 15) a j), nI (dfN (wdN W (f 15) a) (wdN (wgN W L (f 15) a j) (f 15) a)))) (W + 1) ?_ ?_ (W + 1) 0 (4294967296 + NF) (nI W, nI (wdN W (f 15) a)) (by omega) (by omega) ?_
  · intro fu j s hj hs'
    have hs' : s = (nI (wgN W L (f 15) a j), nI (dfN (wdN W (f 15) a) (wdN (wgN W L (f 15) a j) (f 15) a))) := hs'
    subst hs'
    refine Or.inl ⟨(nI (wgN W L (f 15) a (j + 1)), nI (dfN (wdN W (f 15) a) (wdN (wgN W L (f 15) a (j + 1)) (f 15) a))), rfl, ?_⟩
    have nlt : ¬ nI W < nI j := fun z => by have := (nI_ltI (by omega) (by omega)).mp z; omega
    have hj6 : j < 64 := by omega
    show gsY_X11_wings_1_L17 NF p v1 A w1 g (nI W) L (fu + 1) (nI (wgN W L (f 15) a j)) (nI (dfN (wdN W (f 15) a) (wdN (wgN W L (f 15) a j) (f 15) a))) (nI j) = gsY_X11_wings_1_L17 NF p v1 A w1 g (nI W) L fu (nI (wgN W L (f 15) a (j + 1))) (nI (dfN (wdN W (f 15) a) (wdN (wgN W L (f 15) a (j + 1)) (f 15) a))) (nI (j + 1))
    obtain ⟨k1, k2⟩ := wgN_sb (L := L) (x := f 15) (a := a) h64 j (by omega)
    simp only [wgN]
    generalize wgN W L (f 15) a j = k at k1 k2 ⊢
    by_cases z : nI j &&& (nI W ^^^ (-1)) = (0 : Int32)
    · by_cases z1 : nI j &&& L = L
      · have hsj : ∀ i, i < a → j / 2 ^ i % 2 = 1 → ¬ f 15 (6 + i) = -1 := fun i hi q => hs i hi ((sbT W h64 j hj6 z).2 i (by omega) q)
        have hsk : ∀ i, i < a → k / 2 ^ i % 2 = 1 → ¬ f 15 (6 + i) = -1 := fun i hi q => hs i hi ((sbT W h64 k k1 k2).2 i (by omega) q)
        obtain ⟨o1, o2⟩ := andN W h64 j hj6
        have hso : ∀ i, i < a → (W &&& (63 ^^^ j)) / 2 ^ i % 2 = 1 → ¬ f 15 (6 + i) = -1 := fun i hi q => hs i hi (by
          rw [andB W h64 j hj6 i (by omega)] at q
          rcases Nat.mod_two_eq_zero_or_one (W / 2 ^ i) with y | y
          · rw [y, Nat.zero_mul] at q; exact absurd q (by decide)
          · exact y)
        obtain ⟨ej, nj⟩ := Q.wdn hsj a (Nat.le_refl _)
        obtain ⟨eo, no⟩ := Q.wdn hso a (Nat.le_refl _)
        obtain ⟨_, nk⟩ := Q.wdn hsk a (Nat.le_refl _)
        have sp := wdN_sp (x := f 15) h64 hj6 z a a3
        have pl := dfY (NF := NF) (v1 := v1) (F := A) (w1 := w1) (g := g) sp (by omega)
        have b1 := dfN_b (w := wdN W (f 15) a) (s := wdN j (f 15) a) (by omega) (by omega)
        have b2 := dfN_b (w := wdN W (f 15) a) (s := wdN k (f 15) a) (by omega) (by omega)
        simp only [if_pos z, if_pos z1]
        conv => lhs; unfold gsY_X11_wings_1_L17
        simp only [if_neg nlt, z, z1, if_true, Q.wideY hj6 hsj, o1, Q.wideY o2 hso, ej, eo, pl, nI_1]
        by_cases x1 : dfN (wdN W (f 15) a) (wdN j (f 15) a) < dfN (wdN W (f 15) a) (wdN k (f 15) a)
        · have y1 : ¬ nI (dfN (wdN W (f 15) a) (wdN k (f 15) a)) < nI (dfN (wdN W (f 15) a) (wdN j (f 15) a)) := fun q => by have := (nI_ltI (by omega) (by omega)).mp q; omega
          have y2 : ¬ nI (dfN (wdN W (f 15) a) (wdN j (f 15) a)) = nI (dfN (wdN W (f 15) a) (wdN k (f 15) a)) := fun q => by have := (nI_eq (by omega) (by omega)).mp q; omega
          simp only [if_pos x1, if_neg y1, if_neg y2]
        · by_cases x2 : dfN (wdN W (f 15) a) (wdN j (f 15) a) = dfN (wdN W (f 15) a) (wdN k (f 15) a)
          · have y1 : ¬ nI (dfN (wdN W (f 15) a) (wdN k (f 15) a)) < nI (dfN (wdN W (f 15) a) (wdN j (f 15) a)) := fun q => by have := (nI_ltI (by omega) (by omega)).mp q; omega
            have y2 : nI (dfN (wdN W (f 15) a) (wdN j (f 15) a)) = nI (dfN (wdN W (f 15) a) (wdN k (f 15) a)) := by rw [x2]
            by_cases x3 : k ≤ j
            · have y3 : ¬ nI j < nI k := fun q => by have := (nI_ltI (by omega) (by omega)).mp q; omega
              simp only [if_neg x1, if_pos x2, if_pos x3, if_neg y1, if_pos y2, if_neg y3]
            · have y3 : nI j < nI k := nI_lt (by omega) (by omega)
              simp only [if_neg x1, if_pos x2, if_neg x3, if_neg y1, if_pos y2, if_pos y3]
          · have y1 : nI (dfN (wdN W (f 15) a) (wdN k (f 15) a)) < nI (dfN (wdN W (f 15) a) (wdN j (f 15) a)) := nI_lt (by omega) (by omega)
            simp only [if_neg x1, if_neg x2, if_pos y1]
      · simp only [if_pos z, if_neg z1]
        conv => lhs; unfold gsY_X11_wings_1_L17
        simp only [if_neg nlt, z, if_true, if_neg z1, nI_1]
    · simp only [if_neg z]
      conv => lhs; unfold gsY_X11_wings_1_L17
      simp only [if_neg nlt, if_neg z, nI_1]
  · intro fu s hs'
    have hs' : s = (nI (wgN W L (f 15) a (W + 1)), nI (dfN (wdN W (f 15) a) (wdN (wgN W L (f 15) a (W + 1)) (f 15) a))) := hs'
    subst hs'
    have yl : nI W < nI (W + 1) := nI_lt (by omega) (by omega)
    show gsY_X11_wings_1_L17 NF p v1 A w1 g (nI W) L (fu + 1) (nI (wgN W L (f 15) a (W + 1))) (nI (dfN (wdN W (f 15) a) (wdN (wgN W L (f 15) a (W + 1)) (f 15) a))) (nI (W + 1)) = _
    simp only [gsY_X11_wings_1_L17, if_pos yl]
    split <;> rfl
  · show (nI W, nI (wdN W (f 15) a)) = (nI W, nI (dfN (wdN W (f 15) a) (wdN (wgN W L (f 15) a 0) (f 15) a)))
    rw [← e0]
theorem wingsY13 {W : Nat} {A : Nat → Nat → Int32} (h64 : W < 64) (p : Int32) : gsY_X11_wings_1_L13 NF p v1 A w1 g (nI W) (4294967296 + NF) 0 5 = gsY_X11_wings_1_L17 NF p v1 A w1 g (nI W) (lwA W 6) (4294967296 + NF) (nI W) (gsY_X11_wideOf_1 NF (nI W) v1 A w1 g) 0 := by
  have st : ∀ fu l i, i < 6 → gsY_X11_wings_1_L13 NF p v1 A w1 g (nI W) (fu + 1) l (nI i) = gsY_X11_wings_1_L13 NF p v1 A w1 g (nI W) fu (if W / 2 ^ i % 2 = 1 then nI (2 ^ i) else l) (nI i + (-1)) := fun fu l i hi => by
    obtain ⟨B1, _⟩ := bitT W h64 i hi
    have n0 : ¬ nI i < 0 := nI_nlt0 (by omega)
    conv => lhs; unfold gsY_X11_wings_1_L13
    simp only [if_neg n0, B1, shlT i hi]
    by_cases z : W / 2 ^ i % 2 = 1
    · rw [z, if_pos (show nI 1 = (1 : Int32) from rfl), if_pos rfl]
    · have z0 : W / 2 ^ i % 2 = 0 := by omega
      rw [z0, if_neg (show ¬ nI 0 = (1 : Int32) by decide), if_neg (show ¬ (0 : Nat) = 1 by decide)]
  obtain ⟨F, hF⟩ : ∃ F, 4294967296 + NF = F + 1 + 1 + 1 + 1 + 1 + 1 + 1 := ⟨4294967289 + NF, by omega⟩
  have ed : gsY_X11_wings_1_L13 NF p v1 A w1 g (nI W) (F + 1) (lwA W 6) (-1) = gsY_X11_wings_1_L17 NF p v1 A w1 g (nI W) (lwA W 6) (4294967296 + NF) (nI W) (gsY_X11_wideOf_1 NF (nI W) v1 A w1 g) 0 := by
    conv => lhs; unfold gsY_X11_wings_1_L13
    simp only [if_pos m1_lt]
  rw [← ed]
  generalize e : lwA W 6 = L
  rw [hF]
  show gsY_X11_wings_1_L13 NF p v1 A w1 g (nI W) (F + 1 + 1 + 1 + 1 + 1 + 1 + 1) 0 (nI 5) = _
  rw [st _ _ 5 (by decide), show nI 5 + (-1) = nI 4 by decide, st _ _ 4 (by decide), show nI 4 + (-1) = nI 3 by decide, st _ _ 3 (by decide), show nI 3 + (-1) = nI 2 by decide, st _ _ 2 (by decide), show nI 2 + (-1) = nI 1 by decide, st _ _ 1 (by decide), show nI 1 + (-1) = nI 0 by decide, st _ _ 0 (by decide), show nI 0 + (-1) = (-1 : Int32) by decide, ← e]
  rfl
theorem FREL.wings (h : FREL v f v1 f1) {p : Int32} (e : gsX_X10_wings_1 NF p v f = r) (e' : gsY_X11_wings_1 NF p v1 f1 w1 g = (r', u')) : r = r' := by
  obtain ⟨a, b, A, R, Q⟩ := h.qc (NF := NF) w1 g
  have a3 := Q.a3
  by_cases c2 : p < 0
  · simp only [gsX_X10_wings_1, if_pos c2] at e
    simp only [gsY_X11_wings_1, gsY_X11_isIn_1, if_pos c2, ite01] at e'
    cases e'
    exact e.symm
  · by_cases c3 : p ≤ 1
    · have c3' : ¬ (1 : Int32) < p := fun z => by
        have z1 := (fa_lt _ _).mp z
        have z2 := (fa_le _ _).mp c3
        omega
      have h64 : bts (wrB (f 15)) a < 64 := by
        have h1 := bts_lt (wrB (f 15)) a a3
        have h2 := p2le a a3
        omega
      have hs : ∀ j, j < a → bts (wrB (f 15)) a / 2 ^ j % 2 = 1 → ¬ f 15 (6 + j) = -1 := fun j hj q z => by
        rw [bts_bit _ a a3 j hj, wrB_0 z] at q
        exact absurd q (by decide)
      have wX := Q.wingsX rfl h64 hs
      have wY := Q.wingsY17 h64 hs p (lwA (bts (wrB (f 15)) a) 6)
      obtain ⟨k1, k2⟩ := wgN_sb (L := lwA (bts (wrB (f 15)) a) 6) (x := f 15) (a := a) h64 64 (by omega)
      obtain ⟨d1, _, _⟩ := Q.diffX rfl h64 hs k1 k2
      simp only [gsX_X10_wings_1, if_neg c2, if_pos c3, wX, d1] at e
      simp only [gsY_X11_wings_1, gsY_X11_isIn_1, if_neg c2, if_neg c3', ite11, if_true, Q.fl, Q.wearY, wingsY13 h64, wY] at e'
      cases e'
      rw [← e]
      by_cases c4 : p = 1
      · rw [if_pos c4, if_neg (by rw [c4]; decide)]
      · have c5 : p = 0 := by
          apply (fa_eq _ _).mpr
          have z1 : ¬ p.toInt < (0 : Int32).toInt := fun z => c2 ((fa_lt _ _).mpr z)
          have z2 := (fa_le _ _).mp c3
          have z3 : ¬ p.toInt = (1 : Int32).toInt := fun z => c4 ((fa_eq _ _).mpr z)
          have o1 : ((1 : Int32)).toInt = 1 := by decide
          have o0 : ((0 : Int32)).toInt = 0 := by decide
          rw [o1] at z2 z3
          rw [o0] at z1 ⊢
          omega
        rw [if_neg c4, if_pos c5]
    · have c3' : (1 : Int32) < p := lt_of_nle c3
      simp only [gsX_X10_wings_1, if_neg c2, if_neg c3] at e
      simp only [gsY_X11_wings_1, gsY_X11_isIn_1, if_neg c2, if_pos c3', ite01] at e'
      cases e'
      exact e.symm
end
end
section
section
variable {NF : Nat}
theorem lsY {x y : Nat} (hx : x < 2 ^ 31) (hy : y < 2 ^ 31) {V : Nat → Int32} {F : Nat → Nat → Int32} {W : Int64} {K : Nat → Int64} : gsY_X11_lesser_1 NF (nI x) (nI y) V F W K = nI (min x y) := by
  simp only [gsY_X11_lesser_1]
  by_cases c : y ≤ x
  · rw [if_pos (nI_le c hx), show min x y = y by omega]
  · rw [if_neg (nI_ge (by omega) hy), show min x y = x by omega]
theorem grY {x y : Nat} (hx : x < 2 ^ 31) (hy : y < 2 ^ 31) {V : Nat → Int32} {F : Nat → Nat → Int32} {W : Int64} {K : Nat → Int64} : gsY_X11_greater_1 NF (nI x) (nI y) V F W K = nI (max x y) := by
  simp only [gsY_X11_greater_1]
  by_cases c : x ≤ y
  · rw [if_pos (nI_le c hy), show max x y = y by omega]
  · rw [if_neg (nI_ge (by omega) hx), show max x y = x by omega]
end
end
