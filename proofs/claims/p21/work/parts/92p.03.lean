section
section
variable {NF : Nat} {v : Nat → Int32} {f : Nat → Nat → Int32} {v1 : Nat → Int32} {f1 : Nat → Nat → Int32} {w1 : Int64} {g : Nat → Int64} {r r' : Int32} {u : (Nat → Int32) × (Nat → Nat → Int32)} {u' : (Nat → Int32) × (Nat → Nat → Int32) × Int64 × (Nat → Int64)}
theorem QC.wearX {a b : Nat} {A R : Nat → Nat → Int32} (Q : QC NF v f v1 f1 w1 g a b A R) : gsX_X1_wearers_1 NF v f = nI (bts (wrB (f 15)) a) := by
  have a3 := Q.a3
  have b3 := Q.b3
  refine acc0 (NF := NF) (L := fun fu s i => gsX_X1_wearers_1_L1 NF v f fu s i) (fun j => nI (bts (wrB (f 15)) j)) (by omega) (fun fu j hj => ?_) (fun fu => ?_)
  · obtain ⟨o1, o2⟩ := bts_or (p := wrB (f 15)) (n := j) (by omega)
    have nle : ¬ nI a ≤ nI j := nI_ge hj (by omega)
    show gsX_X1_wearers_1_L1 NF v f (fu + 1) (nI (bts (wrB (f 15)) j)) (nI j) = gsX_X1_wearers_1_L1 NF v f fu (nI (bts (wrB (f 15)) (j + 1))) (nI (j + 1))
    rcases (Q.nw.1 j hj).2.2.2 with q2 | ⟨c, hc, q2⟩
    · rw [← (o2 (by rw [wrB_0 q2]; decide)).2]
      conv => lhs; unfold gsX_X1_wearers_1_L1
      simp only [Q.a1, xWears1 (NF := NF) (F := f) Q.a1 Q.a3 hj, q2, nI_1]
      rw [if_neg nle, if_pos trivial]
    · rw [← o1 (wrB_1 (by rw [q2]; exact nI_nm1 (by omega)))]
      conv => lhs; unfold gsX_X1_wearers_1_L1
      simp only [Q.a1, xWears1 (NF := NF) (F := f) Q.a1 Q.a3 hj, q2, if_neg (nI_nm1 (show c < 2 ^ 31 by omega)), nI_1]
      rw [if_neg nle]
  · show gsX_X1_wearers_1_L1 NF v f (fu + 1) (nI (bts (wrB (f 15)) a)) (nI a) = _
    simp only [gsX_X1_wearers_1_L1, Q.a1]
    rw [if_pos (nI_le (Nat.le_refl _) (by omega))]
theorem QC.wearY {a b : Nat} {A R : Nat → Nat → Int32} (Q : QC NF v f v1 f1 w1 g a b A R) : gsY_X11_wearers_1 NF v1 A w1 g = nI (bts (wrB (f 15)) a) :=
  yWearers (NF := NF) Q.a2 Q.a3 (fun m hm => ⟨(Q.nw.1 m hm).2.2.1.symm, (Q.nw.1 m hm).2.2.2⟩) Q.b3
def wdS (T : Nat) (x : Nat → Int32) : Nat → Int32
  | 0 => 0
  | m + 1 => if T / 2 ^ m % 2 = 1 then wdS T x m + x (18 + nv (x (6 + m))) else wdS T x m
theorem QC.wideX {a b T : Nat} {A R : Nat → Nat → Int32} (Q : QC NF v f v1 f1 w1 g a b A R) (hT : T < 64) (hs : ∀ j, j < a → T / 2 ^ j % 2 = 1 → ¬ f 15 (6 + j) = -1) : gsX_X2_wideTogether_1 NF (nI T) v f = wdS T (f 15) a := by
  have a3 := Q.a3
  have b3 := Q.b3
  refine acc0 (NF := NF) (L := fun fu s i => gsX_X2_wideTogether_1_L1 NF (nI T) v f fu s i) (fun j => wdS T (f 15) j) (by omega) (fun fu j hj => ?_) (fun fu => ?_)
  · have nle : ¬ nI a ≤ nI j := nI_ge hj (by omega)
    obtain ⟨B1, _⟩ := bitT T hT j (by omega)
    have em : wdS T (f 15) (j + 1) = (if T / 2 ^ j % 2 = 1 then wdS T (f 15) j + f 15 (18 + nv (f 15 (6 + j))) else wdS T (f 15) j) := rfl
    show gsX_X2_wideTogether_1_L1 NF (nI T) v f (fu + 1) (wdS T (f 15) j) (nI j) = gsX_X2_wideTogether_1_L1 NF (nI T) v f fu (wdS T (f 15) (j + 1)) (nI (j + 1))
    by_cases z : T / 2 ^ j % 2 = 1
    · rw [if_pos z] at em
      rw [z] at B1
      obtain ⟨c, hc, q2⟩ := (Q.nw.1 j hj).2.2.2.resolve_left (hs j hj z)
      have ec : nv (f 15 (6 + j)) = c := by rw [q2]; exact nv_nI (by omega)
      have xp : gsX_X1_part_1 NF 1 (nI c) v f = f 15 (18 + c) := xPart1 (NF := NF) (F := f) (p := 1) Q.b1 Q.b3 hc (by decide)
      rw [em, ec]
      conv => lhs; unfold gsX_X2_wideTogether_1_L1
      simp only [Q.a1, B1, xWears1 (NF := NF) (F := f) Q.a1 Q.a3 hj, q2, xp, nI_1]
      rw [if_neg nle, if_neg (show ¬ nI 1 = (0 : Int32) by decide)]
    · have z0 : T / 2 ^ j % 2 = 0 := by omega
      rw [if_neg z] at em
      rw [z0] at B1
      rw [em]
      conv => lhs; unfold gsX_X2_wideTogether_1_L1
      simp only [Q.a1, B1, nI_1]
      rw [if_neg nle, if_pos (show nI 0 = (0 : Int32) from rfl)]
  · show gsX_X2_wideTogether_1_L1 NF (nI T) v f (fu + 1) (wdS T (f 15) a) (nI a) = _
    simp only [gsX_X2_wideTogether_1_L1, Q.a1]
    rw [if_pos (nI_le (Nat.le_refl _) (by omega))]
theorem QC.wideY {a b T : Nat} {A R : Nat → Nat → Int32} (Q : QC NF v f v1 f1 w1 g a b A R) (hT : T < 64) (hs : ∀ j, j < a → T / 2 ^ j % 2 = 1 → ¬ f 15 (6 + j) = -1) : gsY_X11_wideOf_1 NF (nI T) v1 A w1 g = wdS T (f 15) a := by
  have a3 := Q.a3
  have b3 := Q.b3
  refine acc0 (NF := NF) (L := fun fu s i => gsY_X11_wideOf_1_L1 NF (nI T) v1 A fu s i) (fun j => wdS T (f 15) j) (by omega) (fun fu j hj => ?_) (fun fu => ?_)
  · have nle : ¬ nI a ≤ nI j := nI_ge hj (by omega)
    obtain ⟨B1, _⟩ := bitT T hT j (by omega)
    have em : wdS T (f 15) (j + 1) = (if T / 2 ^ j % 2 = 1 then wdS T (f 15) j + f 15 (18 + nv (f 15 (6 + j))) else wdS T (f 15) j) := rfl
    show gsY_X11_wideOf_1_L1 NF (nI T) v1 A (fu + 1) (wdS T (f 15) j) (nI j) = gsY_X11_wideOf_1_L1 NF (nI T) v1 A fu (wdS T (f 15) (j + 1)) (nI (j + 1))
    have k6 : (6 : Int32) + nI j = nI (6 + j) := nI_add 6 j
    have c6 : (nI (6 + j)).toNatClampNeg = 6 + j := nI_clamp (by omega)
    by_cases z : T / 2 ^ j % 2 = 1
    · rw [if_pos z] at em
      rw [z] at B1
      obtain ⟨_, _, q1, q3⟩ := Q.nw.1 j hj
      obtain ⟨c, hc, q2⟩ := q3.resolve_left (hs j hj z)
      have ec : nv (f 15 (6 + j)) = c := by rw [q2]; exact nv_nI (by omega)
      have k18 : (18 : Int32) + nI c = nI (18 + c) := nI_add 18 c
      have c18 : (nI (18 + c)).toNatClampNeg = 18 + c := nI_clamp (by omega)
      rw [em, ec]
      conv => lhs; unfold gsY_X11_wideOf_1_L1
      simp only [Q.a2, B1, k6, c6, ← q1, q2, k18, c18, ← (Q.nw.2.1 c hc).2.1.1, nI_1]
      rw [if_neg nle, if_pos (show nI 1 = (1 : Int32) from rfl)]
    · have z0 : T / 2 ^ j % 2 = 0 := by omega
      rw [if_neg z] at em
      rw [z0] at B1
      rw [em]
      conv => lhs; unfold gsY_X11_wideOf_1_L1
      simp only [Q.a2, B1, Int32.add_zero, nI_1]
      rw [if_neg nle, if_neg (show ¬ nI 0 = (1 : Int32) by decide)]
  · show gsY_X11_wideOf_1_L1 NF (nI T) v1 A (fu + 1) (wdS T (f 15) a) (nI a) = _
    simp only [gsY_X11_wideOf_1_L1, Q.a2]
    rw [if_pos (nI_le (Nat.le_refl _) (by omega))]
theorem FREL.breadth (h : FREL v f v1 f1) (e : gsX_X10_breadth_1 NF v f = r) (e' : gsY_X11_breadth_1 NF v1 f1 w1 g = (r', u')) : r = r' := by
  obtain ⟨a, b, A, R, Q⟩ := h.qc (NF := NF) w1 g
  have a3 := Q.a3
  have h64 : bts (wrB (f 15)) a < 64 := by
    have h1 := bts_lt (wrB (f 15)) a a3
    have h2 := p2le a a3
    omega
  have hs : ∀ j, j < a → bts (wrB (f 15)) a / 2 ^ j % 2 = 1 → ¬ f 15 (6 + j) = -1 := fun j hj q z => by
    rw [bts_bit _ a a3 j hj, wrB_0 z] at q
    exact absurd q (by decide)
  simp only [gsX_X10_breadth_1, Q.wearX, Q.wideX h64 hs] at e
  simp only [gsY_X11_breadth_1, Q.fl, Q.wearY, Q.wideY h64 hs] at e'
  cases e'
  exact e.symm
end
end
section
section
variable {NF : Nat} {v : Nat → Int32} {f : Nat → Nat → Int32} {v1 : Nat → Int32} {f1 : Nat → Nat → Int32} {w1 : Int64} {g : Nat → Int64} {r r' : Int32} {u' : (Nat → Int32) × (Nat → Nat → Int32) × Int64 × (Nat → Int64)}
theorem nI_nlt0 {n : Nat} (h : n < 2 ^ 31) : ¬ nI n < 0 := fun z => by
  rw [← nI_0] at z
  have := (nI_ltI h (by decide)).mp z
  omega
theorem sbT : ∀ W, W < 64 → ∀ j, j < 64 → nI j &&& (nI W ^^^ (-1)) = (0 : Int32) → j ≤ W ∧ ∀ i, i < 6 → j / 2 ^ i % 2 = 1 → W / 2 ^ i % 2 = 1 := by decide +kernel
def pcN (T : Nat) : Nat := T % 2 + T / 2 % 2 + T / 4 % 2 + T / 8 % 2 + T / 16 % 2 + T / 32 % 2
theorem bcX : ∀ T, T < 64 → gsX_J6_bitCount_0f7a4_1 0 (nI T) (fun _ => 0) (fun _ _ => 0) = nI (pcN T) := by decide +kernel
theorem bcX1 {T : Nat} (hT : T < 64) : gsX_J6_bitCount_0f7a4_1 NF (nI T) v f = nI (pcN T) := bcX T hT
theorem pcN_le (T : Nat) : pcN T ≤ 6 := by unfold pcN; omega
def pcA (T : Nat) : Nat → Nat
  | 0 => 0
  | j + 1 => pcA T j + T / 2 ^ j % 2
theorem pcA6 : ∀ T, T < 64 → pcA T 6 = pcN T := by decide +kernel
theorem mbY {T : Nat} (hT : T < 64) (F : Nat → Nat → Int32) : gsY_X11_members_1 NF (nI T) v1 F w1 g = nI (pcN T) := by
  rw [← pcA6 T hT]
  refine acc0 (NF := NF) (L := fun fu s i => gsY_X11_members_1_L1 NF (nI T) fu s i) (n := 6) (fun j => nI (pcA T j)) (by omega) (fun fu j hj => ?_) (fun fu => ?_)
  · have nle : ¬ (6 : Int32) ≤ nI j := lit_nle (b := 6) (by decide) hj (by decide)
    obtain ⟨B1, _⟩ := bitT T hT j hj
    show gsY_X11_members_1_L1 NF (nI T) (fu + 1) (nI (pcA T j)) (nI j) = gsY_X11_members_1_L1 NF (nI T) fu (nI (pcA T j + T / 2 ^ j % 2)) (nI (j + 1))
    conv => lhs; unfold gsY_X11_members_1_L1
    simp only [B1, nI_add, nI_1]
    rw [if_neg nle]
  · show gsY_X11_members_1_L1 NF (nI T) (fu + 1) (nI (pcA T 6)) (nI 6) = _
    simp only [gsY_X11_members_1_L1]
    rw [if_pos (show (6 : Int32) ≤ nI 6 by decide)]
def frN (p : Int32) (W : Nat) (x : Nat → Int32) (a : Nat) : Nat → Option Nat
  | 0 => none
  | j + 1 => match frN p W x a j with
    | none => if nI j &&& (nI W ^^^ (-1)) = (0 : Int32) then (if wdS j x a < p then none else some j) else none
    | some k => if nI j &&& (nI W ^^^ (-1)) = (0 : Int32) then (if wdS j x a < p then some k else (if pcN k ≤ pcN j then some k else some j)) else some k
def oI : Option Nat → Int32
  | none => -1
  | some k => nI k
theorem frN_lt {p : Int32} {W : Nat} {x : Nat → Int32} {a : Nat} : ∀ j k, frN p W x a j = some k → k < j := by
  intro j
  induction j with
  | zero => intro k h; have h : (none : Option Nat) = some k := h; cases h
  | succ j ih =>
    intro k h
    simp only [frN] at h
    revert h
    rcases e : frN p W x a j with _ | k0
    · show (if nI j &&& (nI W ^^^ (-1)) = (0 : Int32) then (if wdS j x a < p then none else some j) else none) = some k → _
      split
      · split
        · intro h; cases h
        · intro h; cases h; omega
      · intro h; cases h
    · have h0 := ih k0 e
      show (if nI j &&& (nI W ^^^ (-1)) = (0 : Int32) then (if wdS j x a < p then some k0 else (if pcN k0 ≤ pcN j then some k0 else some j)) else some k0) = some k → _
      split
      · split
        · intro h; cases h; omega
        · split
          · intro h; cases h; omega
          · intro h; cases h; omega
      · intro h; cases h; omega
theorem frN_up {p : Int32} {W : Nat} {x : Nat → Int32} {a : Nat} (hW : W < 64) : ∀ d, W + 1 + d ≤ 64 → frN p W x a (W + 1 + d) = frN p W x a (W + 1) := by
  intro d
  induction d with
  | zero => intro _; rfl
  | succ d ih =>
    intro h
    have ns : ¬ nI (W + 1 + d) &&& (nI W ^^^ (-1)) = (0 : Int32) := fun z => by
      have := (sbT W hW (W + 1 + d) (by omega) z).1
      omega
    have ih := ih (by omega)
    show frN p W x a ((W + 1 + d) + 1) = _
    rw [← ih]
    simp only [frN]
    rcases frN p W x a (W + 1 + d) with _ | k
    · exact if_neg ns
    · exact if_neg ns
theorem QC.frontX {a b : Nat} {A R : Nat → Nat → Int32} (Q : QC NF v f v1 f1 w1 g a b A R) (p : Int32) : gsX_X2_frontOf_1 NF p v f = oI (frN p (bts (wrB (f 15)) a) (f 15) a 64) := by
  have a3 := Q.a3
  have h64 : bts (wrB (f 15)) a < 64 := by
    have h1 := bts_lt (wrB (f 15)) a a3
    have h2 := p2le a a3
    omega
  have hs : ∀ j, j < a → bts (wrB (f 15)) a / 2 ^ j % 2 = 1 → ¬ f 15 (6 + j) = -1 := fun j hj q z => by
    rw [bts_bit _ a a3 j hj, wrB_0 z] at q
    exact absurd q (by decide)
  simp only [gsX_X2_frontOf_1, Q.wearX]
  generalize bts (wrB (f 15)) a = W at h64 hs ⊢
  refine acc0 (NF := NF) (L := fun fu s i => gsX_X2_frontOf_1_L4 NF p v f (nI W ^^^ (-1)) fu s i) (n := 64) (fun j => oI (frN p W (f 15) a j)) (by omega) (fun fu j hj => ?_) (fun fu => ?_)
  · have nle : ¬ (64 : Int32) ≤ nI j := lit_nle (b := 64) (by decide) hj (by decide)
    show gsX_X2_frontOf_1_L4 NF p v f (nI W ^^^ (-1)) (fu + 1) (oI (frN p W (f 15) a j)) (nI j) = gsX_X2_frontOf_1_L4 NF p v f (nI W ^^^ (-1)) fu (oI (frN p W (f 15) a (j + 1))) (nI (j + 1))
    have lt := frN_lt (p := p) (W := W) (x := f 15) (a := a) j
    simp only [frN]
    revert lt
    rcases frN p W (f 15) a j with _ | k
    · intro _
      by_cases z : nI j &&& (nI W ^^^ (-1)) = (0 : Int32)
      · have wd := Q.wideX hj (fun i hi q => hs i hi ((sbT W h64 j hj z).2 i (by omega) q))
        by_cases z1 : wdS j (f 15) a < p
        · simp only [if_pos z, if_pos z1]
          conv => lhs; unfold gsX_X2_frontOf_1_L4
          simp only [oI, if_neg nle, if_true, z, wd, if_pos z1, nI_1]
        · simp only [if_pos z, if_neg z1]
          conv => lhs; unfold gsX_X2_frontOf_1_L4
          simp only [oI, if_neg nle, if_true, z, wd, if_neg z1, nI_1]
      · simp only [if_neg z]
        conv => lhs; unfold gsX_X2_frontOf_1_L4
        simp only [oI, if_neg nle, if_true, if_neg z, nI_1]
    · intro lt
      have hk : k < 64 := by have := lt k rfl; omega
      have nk : ¬ nI k = -1 := nI_nm1 (by omega)
      have p1 := pcN_le k
      have p2 := pcN_le j
      by_cases z2 : pcN k ≤ pcN j
      · have y2 : nI (pcN k) ≤ nI (pcN j) := nI_le z2 (by omega)
        have e0 : ∀ (c d : Prop) [Decidable c] [Decidable d], (if c then (if d then some k else (if pcN k ≤ pcN j then some k else some j)) else some k) = some k := fun c d _ _ => by
          rw [if_pos z2]
          split
          · split <;> rfl
          · rfl
        simp only [e0]
        conv => lhs; unfold gsX_X2_frontOf_1_L4
        simp only [oI, if_neg nle, if_neg nk, bcX1 hj, bcX1 hk, if_pos y2, nI_1]
        split <;> rfl
      · have y2 : ¬ nI (pcN k) ≤ nI (pcN j) := nI_ge (by omega) (by omega)
        by_cases z : nI j &&& (nI W ^^^ (-1)) = (0 : Int32)
        · have wd := Q.wideX hj (fun i hi q => hs i hi ((sbT W h64 j hj z).2 i (by omega) q))
          by_cases z1 : wdS j (f 15) a < p
          · simp only [if_pos z, if_pos z1]
            conv => lhs; unfold gsX_X2_frontOf_1_L4
            simp only [oI, if_neg nle, if_neg nk, bcX1 hj, bcX1 hk, if_neg y2, z, if_true, wd, if_pos z1, nI_1]
          · simp only [if_pos z, if_neg z1, if_neg z2]
            conv => lhs; unfold gsX_X2_frontOf_1_L4
            simp only [oI, if_neg nle, if_neg nk, bcX1 hj, bcX1 hk, if_neg y2, z, if_true, wd, if_neg z1, nI_1]
        · simp only [if_neg z]
          conv => lhs; unfold gsX_X2_frontOf_1_L4
          simp only [oI, if_neg nle, if_neg nk, bcX1 hj, bcX1 hk, if_neg y2, if_neg z, nI_1]
  · show gsX_X2_frontOf_1_L4 NF p v f (nI W ^^^ (-1)) (fu + 1) (oI (frN p W (f 15) a 64)) (nI 64) = _
    conv => lhs; unfold gsX_X2_frontOf_1_L4
    rw [if_pos (show (64 : Int32) ≤ nI 64 by decide)]
def frR (p2 : Int32) : Option Nat → Int32
  | none => -1
  | some k => if p2 = 0 then nI (pcN k) else nI k
theorem QC.frontY {a b : Nat} {A R : Nat → Nat → Int32} (Q : QC NF v f v1 f1 w1 g a b A R) (p p2 : Int32) : gsY_X11_front_1_L17 NF p p2 v1 A w1 g (nI (bts (wrB (f 15)) a)) (4294967296 + NF) (-1) 0 = (frR p2 (frN p (bts (wrB (f 15)) a) (f 15) a 64), v1, A, w1, g) := by
  have a3 := Q.a3
  have h64 : bts (wrB (f 15)) a < 64 := by
    have h1 := bts_lt (wrB (f 15)) a a3
    have h2 := p2le a a3
    omega
  have hs : ∀ j, j < a → bts (wrB (f 15)) a / 2 ^ j % 2 = 1 → ¬ f 15 (6 + j) = -1 := fun j hj q z => by
    rw [bts_bit _ a a3 j hj, wrB_0 z] at q
    exact absurd q (by decide)
  generalize bts (wrB (f 15)) a = W at h64 hs ⊢
  have eu := frN_up (p := p) (x := f 15) (a := a) h64 (63 - W) (by omega)
  rw [show W + 1 + (63 - W) = 64 by omega] at eu
  rw [eu]
  refine lpQ (S := Int32) (fun fu i s => gsY_X11_front_1_L17 NF p p2 v1 A w1 g (nI W) fu s i) (fun r => r = (frR p2 (frN p W (f 15) a (W + 1)), v1, A, w1, g)) (fun j s => s = oI (frN p W (f 15) a j)) (W + 1) ?_ ?_ (W + 1) 0 (4294967296 + NF) (-1) (by omega) (by omega) rfl
  · intro fu j s hj hs'
    have hs' : s = oI (frN p W (f 15) a j) := hs'
    subst hs'
    refine Or.inl ⟨oI (frN p W (f 15) a (j + 1)), rfl, ?_⟩
    have nlt : ¬ nI W < nI j := fun z => by have := (nI_ltI (by omega) (by omega)).mp z; omega
    have hj6 : j < 64 := by omega
    show gsY_X11_front_1_L17 NF p p2 v1 A w1 g (nI W) (fu + 1) (oI (frN p W (f 15) a j)) (nI j) = gsY_X11_front_1_L17 NF p p2 v1 A w1 g (nI W) fu (oI (frN p W (f 15) a (j + 1))) (nI (j + 1))
    have lt := frN_lt (p := p) (W := W) (x := f 15) (a := a) j
    simp only [frN]
    by_cases z : nI j &&& (nI W ^^^ (-1)) = (0 : Int32)
    · have wd := Q.wideY hj6 (fun i hi q => hs i hi ((sbT W h64 j hj6 z).2 i (by omega) q))
      by_cases z1 : wdS j (f 15) a < p
      · simp only [if_pos z, if_pos z1]
        conv => lhs; unfold gsY_X11_front_1_L17
        simp only [if_neg nlt, z, if_true, wd, if_pos z1, nI_1]
        rcases frN p W (f 15) a j with _ | k <;> rfl
      · simp only [if_pos z, if_neg z1]
        revert lt
        rcases frN p W (f 15) a j with _ | k
        · intro _
          conv => lhs; unfold gsY_X11_front_1_L17
          simp only [oI, if_neg nlt, z, if_true, wd, if_neg z1, if_pos m1_lt, nI_1]
        · intro lt
          have hk : k < 64 := by have := lt k rfl; omega
          have p1 := pcN_le k
          have p2' := pcN_le j
          have k0 : ¬ nI k < 0 := nI_nlt0 (by omega)
          by_cases z2 : pcN k ≤ pcN j
          · have y2 : nI (pcN k) ≤ nI (pcN j) := nI_le z2 (by omega)
            simp only [if_pos z2]
            conv => lhs; unfold gsY_X11_front_1_L17
            simp only [oI, if_neg nlt, z, if_true, wd, if_neg z1, if_neg k0, mbY hj6, mbY hk, if_pos y2, nI_1]
          · have y2 : ¬ nI (pcN k) ≤ nI (pcN j) := nI_ge (by omega) (by omega)
            simp only [if_neg z2]
            conv => lhs; unfold gsY_X11_front_1_L17
            simp only [oI, if_neg nlt, z, if_true, wd, if_neg z1, if_neg k0, mbY hj6, mbY hk, if_neg y2, nI_1]
    · simp only [if_neg z]
      conv => lhs; unfold gsY_X11_front_1_L17
      simp only [if_neg nlt, if_neg z, nI_1]
      rcases frN p W (f 15) a j with _ | k <;> rfl
  · intro fu s hs'
    have hs' : s = oI (frN p W (f 15) a (W + 1)) := hs'
    subst hs'
    have lt := frN_lt (p := p) (W := W) (x := f 15) (a := a) (W + 1)
    have yl : nI W < nI (W + 1) := nI_lt (by omega) (by omega)
    show gsY_X11_front_1_L17 NF p p2 v1 A w1 g (nI W) (fu + 1) (oI (frN p W (f 15) a (W + 1))) (nI (W + 1)) = (frR p2 (frN p W (f 15) a (W + 1)), v1, A, w1, g)
    revert lt
    rcases frN p W (f 15) a (W + 1) with _ | k
    · intro _
      simp only [gsY_X11_front_1_L17, oI, frR, if_pos yl]
      exact if_neg (show ¬ (0 : Int32) ≤ -1 by decide)
    · intro lt
      have hk : k < 64 := by have := lt k rfl; omega
      have k0 : (0 : Int32) ≤ nI k := lit_le (b := 0) (by decide) (by omega) (by omega)
      simp only [gsY_X11_front_1_L17, oI, frR, if_pos yl, if_pos k0, mbY hk]
      split <;> rfl
theorem FREL.front (h : FREL v f v1 f1) {p p2 : Int32} (e : gsX_X10_front_1 NF p p2 v f = r) (e' : gsY_X11_front_1 NF p p2 v1 f1 w1 g = (r', u')) : r = r' := by
  obtain ⟨a, b, A, R, Q⟩ := h.qc (NF := NF) w1 g
  by_cases c0 : p < 0
  · simp only [gsX_X10_front_1, if_pos c0] at e
    simp only [gsY_X11_front_1, gsY_X11_isIn_1, if_pos c0, ite01] at e'
    cases e'
    exact e.symm
  · by_cases c1 : (999 : Int32) < p
    · simp only [gsX_X10_front_1, if_neg c0, if_pos c1] at e
      simp only [gsY_X11_front_1, gsY_X11_isIn_1, if_neg c0, if_pos c1, ite01] at e'
      cases e'
      exact e.symm
    · by_cases c2 : p2 < 0
      · simp only [gsX_X10_front_1, if_neg c0, if_neg c1, if_pos c2] at e
        simp only [gsY_X11_front_1, gsY_X11_isIn_1, if_neg c0, if_neg c1, if_pos c2, ite01, ite11, if_true] at e'
        cases e'
        exact e.symm
      · by_cases c3 : p2 ≤ 1
        · have c3' : ¬ (1 : Int32) < p2 := fun z => by
            have z1 := (fa_lt _ _).mp z
            have z2 := (fa_le _ _).mp c3
            omega
          simp only [gsX_X10_front_1, if_neg c0, if_neg c1, if_neg c2, if_pos c3, Q.frontX] at e
          simp only [gsY_X11_front_1, gsY_X11_isIn_1, if_neg c0, if_neg c1, if_neg c2, if_neg c3', ite11, if_true, Q.fl, Q.wearY, Q.frontY] at e'
          cases e'
          rw [← e]
          have lt := frN_lt (p := p) (W := bts (wrB (f 15)) a) (x := f 15) (a := a) 64
          revert lt
          rcases frN p (bts (wrB (f 15)) a) (f 15) a 64 with _ | k
          · intro _
            simp only [oI, frR, if_true]
            split <;> rfl
          · intro lt
            have hk : k < 64 := lt k rfl
            simp only [oI, frR, if_neg (nI_nm1 (show k < 2 ^ 31 by omega)), bcX1 hk]
            by_cases c4 : p2 = 1
            · rw [if_pos c4, if_neg (by rw [c4]; decide)]
            · have c5 : p2 = 0 := by
                apply (fa_eq _ _).mpr
                have z1 : ¬ p2.toInt < (0 : Int32).toInt := fun z => c2 ((fa_lt _ _).mpr z)
                have z2 := (fa_le _ _).mp c3
                have z3 : ¬ p2.toInt = (1 : Int32).toInt := fun z => c4 ((fa_eq _ _).mpr z)
                have o1 : ((1 : Int32)).toInt = 1 := by decide
                have o0 : ((0 : Int32)).toInt = 0 := by decide
                rw [o1] at z2 z3
                rw [o0] at z1 ⊢
                omega
              rw [if_neg c4, if_pos c5]
        · have c3' : (1 : Int32) < p2 := lt_of_nle c3
          simp only [gsX_X10_front_1, if_neg c0, if_neg c1, if_neg c2, if_neg c3] at e
          simp only [gsY_X11_front_1, gsY_X11_isIn_1, if_neg c0, if_neg c1, if_neg c2, if_pos c3', ite01, ite11, if_true] at e'
          cases e'
          exact e.symm
end
end
section
section
theorem ud_n {v : Nat → Int32} {j k : Nat} {x : Int32} (h : k ≠ j) : upd v j x k = v k := if_neg h
theorem ud_e {v : Nat → Int32} {j : Nat} {x : Int32} : upd v j x j = x := if_pos rfl
theorem u2_e {f : Nat → Nat → Int32} {q : Nat} {g : Nat → Int32} : upd2 f q g q = g := if_pos rfl
def A24 (f1 : Nat → Nat → Int32) : Nat → Nat → Int32 := upd2 f1 24 (f1 23)
theorem A24_n {f1 : Nat → Nat → Int32} {q : Nat} (h : q ≠ 24) : A24 f1 q = f1 q := u2n h
theorem A24_e {f1 : Nat → Nat → Int32} : A24 f1 24 = f1 23 := u2_e
def GS (v : Nat → Int32) (f : Nat → Nat → Int32) (v1 : Nat → Int32) (f1 : Nat → Nat → Int32) (a b : Nat) : Prop := v 31 = nI a ∧ v1 24 = nI a ∧ a ≤ 6 ∧ v 32 = nI b ∧ b ≤ 6 ∧ STM f f1 a ∧ STF v f v1 f1 ∧ v 33 = v1 26 ∧ NWR 999 a b (f 15) (f1 23)
variable {NF : Nat} {v : Nat → Int32} {f : Nat → Nat → Int32} {v1 : Nat → Int32} {f1 : Nat → Nat → Int32} {w1 : Int64} {g : Nat → Int64} {a b : Nat}
theorem FREL.gs (h : FREL v f v1 f1) : ∃ a b, GS v f v1 f1 a b := by
  obtain ⟨hr, a, b, a1, a2, a3, b1, b2, b3, sm, sc, nw, ac, bx⟩ := h
  exact ⟨a, b, a1, a2, a3, b1, b3, sm, hr.2.1.2.2, hr.2.1.2.1.1, nw⟩
theorem GS.up {V : Nat → Int32} (G : GS v f v1 f1 a b) (h : ∀ k, k < 26 ∨ 30 < k → V k = v k) : GS V f v1 f1 a b := by
  obtain ⟨a1, a2, a3, b1, b3, sm, sf, es, nw⟩ := G
  refine ⟨(h 31 (by omega)).trans a1, a2, a3, (h 32 (by omega)).trans b1, b3, sm, ?_, (h 33 (by omega)).trans es, nw⟩
  unfold STF
  rw [h 18 (by omega)]
  exact sf
def gvB (e : Int32) (R : Nat → Nat → Int32) (x : Nat → Int32) (m k : Nat) : Bool := wrB x k && decide (¬ e < R m (nv (x (6 + k))))
theorem GS.fX (G : GS v f v1 f1 a b) (w1 : Int64) (g : Nat → Int64) {y : Nat → Nat → Int32} (hy : ∀ q, q ≠ 13 → q ≠ 14 → y q = f q) {m k : Nat} (hm : m < a) (hk : k < a) : ∃ y' : Nat → Nat → Int32, (∀ q, q ≠ 13 → q ≠ 14 → y' q = f q) ∧ gsX_X1_fits_1 NF (nI m) (f 15 (6 + k)) v y = ((if gvB (v1 26) (yI NF v1 (A24 f1) w1 g) (f 15) m k = true then 1 else 0), v, y') := by
  obtain ⟨a1, a2, a3, b1, b3, sm, sf, es, nw⟩ := G
  rcases (nw.1 k hk).2.2.2 with q2 | ⟨c, hc, q2⟩
  · refine ⟨y, hy, ?_⟩
    have s0 : ¬ gvB (v1 26) (yI NF v1 (A24 f1) w1 g) (f 15) m k = true := by unfold gvB; rw [wrB_0 q2, Bool.false_and]; decide
    rw [if_neg s0, q2]
    exact fitX01 a1 a3 b1 b3 hm
  · have w1' := wrB_1 (x := f 15) (m := k) (by rw [q2]; exact nI_nm1 (by omega))
    have ec : nv (f 15 (6 + k)) = c := by rw [q2]; exact nv_nI (by omega)
    obtain ⟨F', i1, i2, i3⟩ := fitX1 (NF := NF) (F := y) (F1 := A24 f1) (v1 := v1) (w1 := w1) (g := g) a1 a3 b1 b3 sm sf (show 999 ≤ 9999 by decide) (fun q hq => hy q (by omega) (by omega)) (fun q hq => A24_n (by omega)) (by rw [hy 15 (by decide) (by decide), A24_e]; exact nw.cms) hm hc
    refine ⟨F', fun q z1 z2 => (i3 q z1 z2).trans (hy q z1 z2), ?_⟩
    rw [q2, i2, es]
    have eg : gvB (v1 26) (yI NF v1 (A24 f1) w1 g) (f 15) m k = decide (¬ v1 26 < yI NF v1 (A24 f1) w1 g m c) := by
      unfold gvB; rw [w1', ec, Bool.true_and]
    rw [eg]
    by_cases z : v1 26 < yI NF v1 (A24 f1) w1 g m c
    · rw [if_pos z, decide_eq_false (fun q => q z), if_neg (by decide)]
    · rw [if_neg z, decide_eq_true z, if_pos rfl]
theorem pc_bts (p : Nat → Bool) (ha : a ≤ 6) : pcN (bts p a) = cntB p a := by
  have h1 := bts_lt p a ha
  have h2 := p2le a ha
  rw [← pcA6 _ (by omega)]
  have lo : ∀ j, j ≤ a → pcA (bts p a) j = cntB p j := by
    intro j
    induction j with
    | zero => intro _; rfl
    | succ j ih =>
      intro hj
      show pcA (bts p a) j + bts p a / 2 ^ j % 2 = cntB p j + (if p j = true then 1 else 0)
      rw [ih (by omega), bts_bit p a ha j (by omega)]
  have hi : ∀ d, a + d ≤ 6 → pcA (bts p a) (a + d) = cntB p a := by
    intro d
    induction d with
    | zero => intro _; exact lo a (Nat.le_refl _)
    | succ d ih =>
      intro hd
      show pcA (bts p a) (a + d) + bts p a / 2 ^ (a + d) % 2 = cntB p a
      rw [ih (by omega), hiB a ha _ (by omega) h1 (a + d) (by omega) (by omega), Nat.add_zero]
  have := hi (6 - a) (by omega)
  rw [show a + (6 - a) = 6 by omega] at this
  exact this
theorem GS.fY (G : GS v f v1 f1 a b) {γ : Nat → Nat} (hγ : ∀ m, m < a → γ m < a) {F : Nat → Nat → Int32} (hF : ∀ q, q ≠ 7 → q ≠ 8 → q ≠ 24 → F q = f1 q) (hw : ∀ m, m < a → F 24 (6 + m) = f1 23 (6 + γ m)) (ho : ∀ k, (k < 6 ∨ (12 ≤ k ∧ k < 39)) → F 24 k = f1 23 k) : ∃ F' : Nat → Nat → Int32, (∀ q, q ≠ 7 → q ≠ 8 → q ≠ 24 → F' q = f1 q) ∧ gsY_X11_fittedOnes_1 NF v1 F w1 g = (nI (bts (fun m => gvB (v1 26) (yI NF v1 (A24 f1) w1 g) (f 15) m (γ m)) a), v1, F', w1, g) ∧ ∀ F2 : Nat → Nat → Int32, gsY_X11_members_1 NF (nI (bts (fun m => gvB (v1 26) (yI NF v1 (A24 f1) w1 g) (f 15) m (γ m)) a)) v1 F2 w1 g = nI (cntB (fun m => gvB (v1 26) (yI NF v1 (A24 f1) w1 g) (f 15) m (γ m)) a) := by
  obtain ⟨a1, a2, a3, b1, b3, sm, sf, es, nw⟩ := G
  have hx : ∃ x : Nat → Int32, (∀ m, m < a → x (6 + m) = f 15 (6 + γ m)) ∧ (∀ k, (k < 6 ∨ (12 ≤ k ∧ k < 44)) → x k = f 15 k) := by
    refine ⟨fun k => if 6 ≤ k ∧ k < 12 then f 15 (6 + γ (k - 6)) else f 15 k, fun m hm => ?_, fun k hk => ?_⟩
    · show (if 6 ≤ 6 + m ∧ 6 + m < 12 then f 15 (6 + γ (6 + m - 6)) else f 15 (6 + m)) = _
      rw [if_pos (by omega), show 6 + m - 6 = m by omega]
    · show (if 6 ≤ k ∧ k < 12 then f 15 (6 + γ (k - 6)) else f 15 k) = _
      rw [if_neg (by omega)]
  obtain ⟨x, x1, x2⟩ := hx
  have cm : CMS 999 a b x (F 24) := nw.cms.cg a3 b3 x2 ho
  have wr : ∀ m, m < a → F 24 (6 + m) = x (6 + m) ∧ (x (6 + m) = -1 ∨ ∃ c, c < b ∧ x (6 + m) = nI c) := fun m hm => by
    obtain ⟨_, _, q1, q2⟩ := nw.1 (γ m) (hγ m hm)
    rw [hw m hm, x1 m hm]
    exact ⟨q1.symm, q2⟩
  have fq : ∀ q, q = 4 ∨ q = 5 ∨ q = 16 → F q = f1 q := fun q hq => hF q (by omega) (by omega) (by omega)
  obtain ⟨K, k1, k2⟩ := yFitted (NF := NF) (F1 := F) (w1 := w1) (g := g) (x := x) a1 a2 a3 b1 b3 sm sf es (show 999 ≤ 9999 by decide) fq cm wr
  have cg : bts (ftB (v 33) (yI NF v1 F w1 g) x) a = bts (fun m => gvB (v1 26) (yI NF v1 (A24 f1) w1 g) (f 15) m (γ m)) a := by
    refine bts_cg a (fun m hm => ?_)
    show (wrB x m && decide (¬ v 33 < yI NF v1 F w1 g m (nv (x (6 + m))))) = (wrB (f 15) (γ m) && decide (¬ v1 26 < yI NF v1 (A24 f1) w1 g m (nv (f 15 (6 + γ m)))))
    have e6 : wrB x m = wrB (f 15) (γ m) := by unfold wrB; rw [x1 m hm]
    rw [e6, x1 m hm, es]
    rcases (nw.1 (γ m) (hγ m hm)).2.2.2 with q2 | ⟨c, hc, q2⟩
    · rw [wrB_0 q2, Bool.false_and, Bool.false_and]
    · have ec : nv (f 15 (6 + γ m)) = c := by rw [q2]; exact nv_nI (by omega)
      obtain ⟨F', i1, _, _, _⟩ := illY (NF := NF) (F1 := A24 f1) (F2 := F) (w1 := w1) (g := g) a1 a3 b1 b3 sm sf (show 999 ≤ 9999 by decide) (fun q hq => A24_n (by omega)) fq (x := x) (by rw [A24_e]; exact nw.cms.cg a3 b3 x2 (fun _ _ => rfl)) cm hm hc
      have er : yI NF v1 F w1 g m c = yI NF v1 (A24 f1) w1 g m c := by
        show (gsY_X11_misfitOf_1 NF (nI m) (nI c) v1 F w1 g).1 = _
        rw [i1]
      rw [ec, er]
  rw [cg] at k2
  refine ⟨K, fun q z1 z2 z3 => (k1 q z1 z2).trans (hF q z1 z2 z3), k2, fun F2 => ?_⟩
  have h1 := bts_lt (fun m => gvB (v1 26) (yI NF v1 (A24 f1) w1 g) (f 15) m (γ m)) a a3
  have h2 := p2le a a3
  rw [mbY (by omega), pc_bts _ a3]
end
end
section
section
variable {NF : Nat} {v : Nat → Int32} {f : Nat → Nat → Int32} {v1 : Nat → Int32} {f1 : Nat → Nat → Int32} {w1 : Int64} {g : Nat → Int64} {a b : Nat} {r r' : Int32} {u : (Nat → Int32) × (Nat → Nat → Int32)} {u' : (Nat → Int32) × (Nat → Nat → Int32) × Int64 × (Nat → Int64)}
def rg (a k m : Nat) : Nat := if a ≤ m + k then m + k - a else m + k
theorem rg_lt {a k m : Nat} (hk : k < a) (hm : m < a) : rg a k m < a := by
  unfold rg
  split <;> omega
theorem rg_mod {a k m : Nat} (hk : k < a) (hm : m < a) : (m + k) % a = rg a k m := by
  unfold rg
  split
  · rename_i h
    rw [Nat.mod_eq_sub_mod h, Nat.mod_eq_of_lt (by omega)]
  · exact Nat.mod_eq_of_lt (by omega)
def rtC (NF : Nat) (f : Nat → Nat → Int32) (v1 : Nat → Int32) (f1 : Nat → Nat → Int32) (w1 : Int64) (g : Nat → Int64) (a k : Nat) : Nat := cntB (fun m => gvB (v1 26) (yI NF v1 (A24 f1) w1 g) (f 15) m (rg a k m)) a
def rtS (c : Nat → Nat) : Nat → Int32 × Int32
  | 0 => (0, -1)
  | k + 1 => if nI (c k) ≤ (rtS c k).2 then rtS c k else (nI k, nI (c k))
theorem GS.rotaC (G : GS v f v1 f1 a b) (w1 : Int64) (g : Nat → Int64) {k : Nat} (hk : k < a) {y : Nat → Nat → Int32} (hy : ∀ q, q ≠ 13 → q ≠ 14 → y q = f q) : ∃ y' : Nat → Nat → Int32, (∀ q, q ≠ 13 → q ≠ 14 → y' q = f q) ∧ gsX_X3_rotaCount_1 NF (nI k) v y = (nI (rtC NF f v1 f1 w1 g a k), v, y') := by
  have a1 := G.1
  have a3 := G.2.2.1
  refine accX (NF := NF) (v := v) (f := f) (L := fun fu s i w y => gsX_X3_rotaCount_1_L1 NF (nI k) v fu s i w y) (fun j => nI (cntB (fun m => gvB (v1 26) (yI NF v1 (A24 f1) w1 g) (f 15) m (rg a k m)) j)) (n := a) (by omega) (fun fu j y hj hF => ?_) (fun fu y => ?_) y hy
  · have nle : ¬ nI a ≤ nI j := nI_ge hj (by omega)
    obtain ⟨B, i1, i2⟩ := G.fX (NF := NF) w1 g hF hj (rg_lt hk hj)
    refine ⟨B, i1, ?_⟩
    show gsX_X3_rotaCount_1_L1 NF (nI k) v (fu + 1) (nI (cntB (fun m => gvB (v1 26) (yI NF v1 (A24 f1) w1 g) (f 15) m (rg a k m)) j)) (nI j) v y = gsX_X3_rotaCount_1_L1 NF (nI k) v fu (nI (cntB (fun m => gvB (v1 26) (yI NF v1 (A24 f1) w1 g) (f 15) m (rg a k m)) (j + 1))) (nI (j + 1)) v B
    have wr : gsX_X1_wears_1 NF (nI (rg a k j)) v y = f 15 (6 + rg a k j) := (xWears1 a1 a3 (rg_lt hk hj)).trans (by rw [hF 15 (by decide) (by decide)])
    by_cases z : gvB (v1 26) (yI NF v1 (A24 f1) w1 g) (f 15) j (rg a k j) = true
    · rw [if_pos z] at i2
      rw [← cntB_1 (p := fun m => gvB (v1 26) (yI NF v1 (A24 f1) w1 g) (f 15) m (rg a k m)) z]
      conv => lhs; unfold gsX_X3_rotaCount_1_L1
      by_cases c : a ≤ j + k
      · have er : rg a k j = j + k - a := if_pos c
        rw [er] at wr i2
        simp only [a1, if_neg nle, nI_add, if_pos (nI_le c (show j + k < 2 ^ 31 by omega)), nI_subI c, wr, i2, ite11, if_true, nI_1]
      · have er : rg a k j = j + k := if_neg c
        rw [er] at wr i2
        simp only [a1, if_neg nle, nI_add, if_neg (nI_ge (show j + k < a by omega) (show a < 2 ^ 31 by omega)), wr, i2, ite11, if_true, nI_1]
    · rw [if_neg z] at i2
      rw [← cntB_0 (p := fun m => gvB (v1 26) (yI NF v1 (A24 f1) w1 g) (f 15) m (rg a k m)) z]
      conv => lhs; unfold gsX_X3_rotaCount_1_L1
      by_cases c : a ≤ j + k
      · have er : rg a k j = j + k - a := if_pos c
        rw [er] at wr i2
        simp only [a1, if_neg nle, nI_add, if_pos (nI_le c (show j + k < 2 ^ 31 by omega)), nI_subI c, wr, i2, ite01, nI_1]
      · have er : rg a k j = j + k := if_neg c
        rw [er] at wr i2
        simp only [a1, if_neg nle, nI_add, if_neg (nI_ge (show j + k < a by omega) (show a < 2 ^ 31 by omega)), wr, i2, ite01, nI_1]
  · show gsX_X3_rotaCount_1_L1 NF (nI k) v (fu + 1) _ (nI a) v y = _
    conv => lhs; unfold gsX_X3_rotaCount_1_L1
    simp only [a1]
    rw [if_pos (nI_le (Nat.le_refl _) (by omega))]
theorem GS.rotaX (G : GS v f v1 f1 a b) (w1 : Int64) (g : Nat → Int64) : ∃ (V : Nat → Int32) (y : Nat → Nat → Int32), V 26 = (rtS (rtC NF f v1 f1 w1 g a) a).1 ∧ V 27 = (rtS (rtC NF f v1 f1 w1 g a) a).2 ∧ gsX_X3_findRota_1 NF v f = (V, y) := by
  have a1 := G.1
  have a3 := G.2.2.1
  refine lpQ (S := SX) (fun fu i s => gsX_X3_findRota_1_L1 NF v fu i s.1 s.2) (fun r => ∃ (V : Nat → Int32) (y : Nat → Nat → Int32), V 26 = (rtS (rtC NF f v1 f1 w1 g a) a).1 ∧ V 27 = (rtS (rtC NF f v1 f1 w1 g a) a).2 ∧ r = (V, y)) (fun j s => (∀ k, k < 26 ∨ 30 < k → s.1 k = v k) ∧ s.1 26 = (rtS (rtC NF f v1 f1 w1 g a) j).1 ∧ s.1 27 = (rtS (rtC NF f v1 f1 w1 g a) j).2 ∧ (∀ q, q ≠ 13 → q ≠ 14 → s.2 q = f q)) a ?_ ?_ a 0 (4294967296 + NF) (upd (upd v 26 0) 27 (-1), f) (by omega) (by omega) ?_
  · rintro fu j ⟨V, y⟩ hj ⟨h1, h2, h3, h4⟩
    have h1 : ∀ k, k < 26 ∨ 30 < k → V k = v k := h1
    have h2 : V 26 = (rtS (rtC NF f v1 f1 w1 g a) j).1 := h2
    have h3 : V 27 = (rtS (rtC NF f v1 f1 w1 g a) j).2 := h3
    have h4 : ∀ q, q ≠ 13 → q ≠ 14 → y q = f q := h4
    have nle : ¬ nI a ≤ nI j := nI_ge hj (by omega)
    obtain ⟨y', i1, i2⟩ := (G.up h1).rotaC (NF := NF) w1 g hj h4
    have es : rtS (rtC NF f v1 f1 w1 g a) (j + 1) = (if nI (rtC NF f v1 f1 w1 g a j) ≤ (rtS (rtC NF f v1 f1 w1 g a) j).2 then rtS (rtC NF f v1 f1 w1 g a) j else (nI j, nI (rtC NF f v1 f1 w1 g a j))) := rfl
    by_cases z : nI (rtC NF f v1 f1 w1 g a j) ≤ (rtS (rtC NF f v1 f1 w1 g a) j).2
    · rw [if_pos z] at es
      refine Or.inl ⟨(V, y'), ⟨h1, ?_, ?_, i1⟩, ?_⟩
      · rw [es]; exact h2
      · rw [es]; exact h3
      · show gsX_X3_findRota_1_L1 NF v (fu + 1) (nI j) V y = gsX_X3_findRota_1_L1 NF v fu (nI (j + 1)) V y'
        conv => lhs; unfold gsX_X3_findRota_1_L1
        simp only [a1, if_neg nle, i2, h3, if_pos z, nI_1]
    · rw [if_neg z] at es
      refine Or.inl ⟨(upd (upd V 26 (nI j)) 27 (nI (rtC NF f v1 f1 w1 g a j)), y'), ⟨fun k hk => ?_, ?_, ?_, i1⟩, ?_⟩
      · show upd (upd V 26 (nI j)) 27 (nI (rtC NF f v1 f1 w1 g a j)) k = v k
        rw [ud_n (by omega), ud_n (by omega)]; exact h1 k hk
      · rw [es]
        show upd (upd V 26 (nI j)) 27 (nI (rtC NF f v1 f1 w1 g a j)) 26 = nI j
        rw [ud_n (by decide), ud_e]
      · rw [es]
        show upd (upd V 26 (nI j)) 27 (nI (rtC NF f v1 f1 w1 g a j)) 27 = nI (rtC NF f v1 f1 w1 g a j)
        rw [ud_e]
      · show gsX_X3_findRota_1_L1 NF v (fu + 1) (nI j) V y = gsX_X3_findRota_1_L1 NF v fu (nI (j + 1)) (upd (upd V 26 (nI j)) 27 (nI (rtC NF f v1 f1 w1 g a j))) y'
        conv => lhs; unfold gsX_X3_findRota_1_L1
        simp only [a1, if_neg nle, i2, h3, if_neg z, nI_1]
  · rintro fu ⟨V, y⟩ ⟨h1, h2, h3, h4⟩
    refine ⟨V, y, h2, h3, ?_⟩
    show gsX_X3_findRota_1_L1 NF v (fu + 1) (nI a) V y = (V, y)
    conv => lhs; unfold gsX_X3_findRota_1_L1
    simp only [a1]
    rw [if_pos (nI_le (Nat.le_refl _) (by omega))]
  · refine ⟨fun k hk => ?_, ?_, ?_, fun _ _ _ => rfl⟩
    · show upd (upd v 26 0) 27 (-1) k = v k
      rw [ud_n (by omega), ud_n (by omega)]
    · show upd (upd v 26 0) 27 (-1) 26 = 0
      rw [ud_n (by decide), ud_e]
    · show upd (upd v 26 0) 27 (-1) 27 = -1
      rw [ud_e]
theorem GS.rotaY19 (G : GS v f v1 f1 a b) {k : Nat} (hk : k < a) {F : Nat → Nat → Int32} (hF : ∀ q, q ≠ 7 → q ≠ 8 → q ≠ 24 → F q = f1 q) (hr : ∀ i, i < 39 → F 24 i = f1 23 i) (l2 l3 : Int32) (k7 : Int32 → Int32 → Int32 → (Nat → Int32) → (Nat → Nat → Int32) → Int64 → (Nat → Int64) → (Int32 × (Nat → Int32) × (Nat → Nat → Int32) × (Int64) × (Nat → Int64))) : ∃ F' : Nat → Nat → Int32, (∀ q, q ≠ 7 → q ≠ 8 → q ≠ 24 → F' q = f1 q) ∧ gsY_X11_rota_1_L19 NF v1 l2 l3 (nI k) k7 (4294967296 + NF) 0 v1 F w1 g = (if l3 < nI (rtC NF f v1 f1 w1 g a k) then k7 (nI k) (nI (rtC NF f v1 f1 w1 g a k)) (nI (k + 1)) v1 F' w1 g else k7 l2 l3 (nI (k + 1)) v1 F' w1 g) := by
  have a2 := G.2.1
  have a3 := G.2.2.1
  refine lpQ (S := Nat → Nat → Int32) (fun fu i s => gsY_X11_rota_1_L19 NF v1 l2 l3 (nI k) k7 fu i v1 s w1 g) (fun r => ∃ F' : Nat → Nat → Int32, (∀ q, q ≠ 7 → q ≠ 8 → q ≠ 24 → F' q = f1 q) ∧ r = (if l3 < nI (rtC NF f v1 f1 w1 g a k) then k7 (nI k) (nI (rtC NF f v1 f1 w1 g a k)) (nI (k + 1)) v1 F' w1 g else k7 l2 l3 (nI (k + 1)) v1 F' w1 g)) (fun j s => (∀ q, q ≠ 7 → q ≠ 8 → q ≠ 24 → s q = f1 q) ∧ (∀ m, m < j → s 24 (6 + m) = f1 23 (6 + rg a k m)) ∧ (∀ i, (i < 6 ∨ (12 ≤ i ∧ i < 39)) → s 24 i = f1 23 i)) a ?_ ?_ a 0 (4294967296 + NF) F (by omega) (by omega) ⟨hF, fun m hm => absurd hm (Nat.not_lt_zero _), fun i hi => hr i (by omega)⟩
  · rintro fu j s hj ⟨h1, h2, h3⟩
    have nle : ¬ nI a ≤ nI j := nI_ge hj (by omega)
    have k6 : (6 : Int32) + nI j = nI (6 + j) := nI_add 6 j
    have c6 : (nI (6 + j)).toNatClampNeg = 6 + j := nI_clamp (by omega)
    have r6 : (6 : Int32) + nI (rg a k j) = nI (6 + rg a k j) := nI_add 6 _
    have lt := rg_lt hk hj
    have cr : (nI (6 + rg a k j)).toNatClampNeg = 6 + rg a k j := nI_clamp (by omega)
    have md : nI (j + k) - nI (j + k) / nI a * nI a = nI (rg a k j) := by
      rw [nI_modI (by omega) (by omega), rg_mod hk hj]
    refine Or.inl ⟨upd2 s 24 (upd (s 24) (6 + j) (f1 23 (6 + rg a k j))), ⟨fun q z1 z2 z3 => ?_, fun m hm => ?_, fun i hi => ?_⟩, ?_⟩
    · rw [u2n z3]; exact h1 q z1 z2 z3
    · rw [u2_e]
      by_cases e : m = j
      · subst e; rw [ud_e]
      · rw [ud_n (by omega)]; exact h2 m (by omega)
    · rw [u2_e, ud_n (by omega)]; exact h3 i hi
    · show gsY_X11_rota_1_L19 NF v1 l2 l3 (nI k) k7 (fu + 1) (nI j) v1 s w1 g = gsY_X11_rota_1_L19 NF v1 l2 l3 (nI k) k7 fu (nI (j + 1)) v1 (upd2 s 24 (upd (s 24) (6 + j) (f1 23 (6 + rg a k j)))) w1 g
      conv => lhs; unfold gsY_X11_rota_1_L19
      simp only [a2, if_neg nle, nI_add, md, k6, c6, r6, cr, h1 23 (by decide) (by decide) (by decide), nI_1]
  · rintro fu s ⟨h1, h2, h3⟩
    obtain ⟨F', i1, i2, i3⟩ := G.fY (NF := NF) (w1 := w1) (g := g) (γ := rg a k) (fun m hm => rg_lt hk hm) h1 h2 h3
    refine ⟨F', i1, ?_⟩
    show gsY_X11_rota_1_L19 NF v1 l2 l3 (nI k) k7 (fu + 1) (nI a) v1 s w1 g = _
    conv => lhs; unfold gsY_X11_rota_1_L19
    simp only [a2, i2, i3, nI_1]
    rw [if_pos (nI_le (Nat.le_refl _) (by omega))]
    rfl
theorem GS.rotaY (G : GS v f v1 f1 a b) (p : Int32) : ∃ F' : Nat → Nat → Int32, gsY_X11_rota_1_L7 NF p v1 (4294967296 + NF) 0 (-1) 0 v1 f1 w1 g = ((if p = 0 then (rtS (rtC NF f v1 f1 w1 g a) a).1 else (rtS (rtC NF f v1 f1 w1 g a) a).2), v1, F', w1, g) := by
  have a2 := G.2.1
  have a3 := G.2.2.1
  refine lpQ (S := Int32 × Int32 × (Nat → Nat → Int32)) (fun fu i s => gsY_X11_rota_1_L7 NF p v1 fu s.1 s.2.1 i v1 s.2.2 w1 g) (fun r => ∃ F' : Nat → Nat → Int32, r = ((if p = 0 then (rtS (rtC NF f v1 f1 w1 g a) a).1 else (rtS (rtC NF f v1 f1 w1 g a) a).2), v1, F', w1, g)) (fun j s => s.1 = (rtS (rtC NF f v1 f1 w1 g a) j).1 ∧ s.2.1 = (rtS (rtC NF f v1 f1 w1 g a) j).2 ∧ (∀ q, q ≠ 7 → q ≠ 8 → q ≠ 24 → s.2.2 q = f1 q)) a ?_ ?_ a 0 (4294967296 + NF) (0, -1, f1) (by omega) (by omega) ⟨rfl, rfl, fun _ _ _ _ => rfl⟩
  · rintro fu j ⟨l2, l3, y⟩ hj ⟨h1, h2, h3⟩
    have h1 : l2 = (rtS (rtC NF f v1 f1 w1 g a) j).1 := h1
    have h2 : l3 = (rtS (rtC NF f v1 f1 w1 g a) j).2 := h2
    have h3 : ∀ q, q ≠ 7 → q ≠ 8 → q ≠ 24 → y q = f1 q := h3
    have nle : ¬ nI a ≤ nI j := nI_ge hj (by omega)
    obtain ⟨A, q1, q2, q3⟩ := yFill (NF := NF) (V := v1) (F0 := y) (W := w1) (G := g)
    have hA : ∀ q, q ≠ 7 → q ≠ 8 → q ≠ 24 → A q = f1 q := fun q z1 z2 z3 => (q1 q z3).trans (h3 q z1 z2 z3)
    have hr : ∀ i, i < 39 → A 24 i = f1 23 i := fun i hi => (q2 i hi).trans (by rw [h3 23 (by decide) (by decide) (by decide)])
    obtain ⟨F', i1, i2⟩ := G.rotaY19 (NF := NF) (w1 := w1) (g := g) hj hA hr l2 l3 (fun z0 z1 z2 z3 z4 z5 z6 => gsY_X11_rota_1_L7 NF p v1 fu z0 z1 z2 z3 z4 z5 z6)
    have es : rtS (rtC NF f v1 f1 w1 g a) (j + 1) = (if nI (rtC NF f v1 f1 w1 g a j) ≤ (rtS (rtC NF f v1 f1 w1 g a) j).2 then rtS (rtC NF f v1 f1 w1 g a) j else (nI j, nI (rtC NF f v1 f1 w1 g a j))) := rfl
    by_cases z : nI (rtC NF f v1 f1 w1 g a j) ≤ (rtS (rtC NF f v1 f1 w1 g a) j).2
    · rw [if_pos z] at es
      have z' : ¬ l3 < nI (rtC NF f v1 f1 w1 g a j) := fun q => by
        rw [h2] at q
        have q1 := (fa_lt _ _).mp q
        have q2 := (fa_le _ _).mp z
        omega
      rw [if_neg z'] at i2
      refine Or.inl ⟨(l2, l3, F'), ⟨?_, ?_, i1⟩, ?_⟩
      · rw [es]; exact h1
      · rw [es]; exact h2
      · show gsY_X11_rota_1_L7 NF p v1 (fu + 1) l2 l3 (nI j) v1 y w1 g = gsY_X11_rota_1_L7 NF p v1 fu l2 l3 (nI (j + 1)) v1 F' w1 g
        conv => lhs; unfold gsY_X11_rota_1_L7
        simp only [a2, if_neg nle, q3, i2]
    · rw [if_neg z] at es
      have z' : l3 < nI (rtC NF f v1 f1 w1 g a j) := by rw [h2]; exact lt_of_nle z
      rw [if_pos z'] at i2
      refine Or.inl ⟨(nI j, nI (rtC NF f v1 f1 w1 g a j), F'), ⟨?_, ?_, i1⟩, ?_⟩
      · rw [es]
      · rw [es]
      · show gsY_X11_rota_1_L7 NF p v1 (fu + 1) l2 l3 (nI j) v1 y w1 g = gsY_X11_rota_1_L7 NF p v1 fu (nI j) (nI (rtC NF f v1 f1 w1 g a j)) (nI (j + 1)) v1 F' w1 g
        conv => lhs; unfold gsY_X11_rota_1_L7
        simp only [a2, if_neg nle, q3, i2]
  · rintro fu ⟨l2, l3, y⟩ ⟨h1, h2, h3⟩
    have h1 : l2 = (rtS (rtC NF f v1 f1 w1 g a) a).1 := h1
    have h2 : l3 = (rtS (rtC NF f v1 f1 w1 g a) a).2 := h2
    refine ⟨y, ?_⟩
    show gsY_X11_rota_1_L7 NF p v1 (fu + 1) l2 l3 (nI a) v1 y w1 g = _
    conv => lhs; unfold gsY_X11_rota_1_L7
    simp only [a2]
    rw [if_pos (nI_le (Nat.le_refl _) (by omega)), h1, h2]
    split <;> rfl
theorem FREL.rota (h : FREL v f v1 f1) {p : Int32} (e : gsX_X10_rota_1 NF p v f = (r, u)) (e' : gsY_X11_rota_1 NF p v1 f1 w1 g = (r', u')) : r = r' := by
  obtain ⟨a, b, G⟩ := h.gs
  have a1 := G.1
  have a2 := G.2.1
  have a3 := G.2.2.1
  by_cases c2 : p < 0
  · simp only [gsX_X10_rota_1, if_pos c2] at e
    simp only [gsY_X11_rota_1, gsY_X11_isIn_1, if_pos c2, ite01] at e'
    cases e'
    by_cases c0 : v 31 = 0
    · rw [if_pos c0] at e; cases e; rfl
    · rw [if_neg c0] at e; cases e; rfl
  · by_cases c3 : p ≤ 1
    · have c3' : ¬ (1 : Int32) < p := fun z => by
        have z1 := (fa_lt _ _).mp z
        have z2 := (fa_le _ _).mp c3
        omega
      by_cases c0 : nI a = 0
      · simp only [gsX_X10_rota_1, a1, if_pos c0] at e
        simp only [gsY_X11_rota_1, gsY_X11_isIn_1, if_neg c2, if_neg c3', ite11, if_true, a2, if_pos c0] at e'
        cases e; cases e'
        rfl
      · obtain ⟨V, y, x1, x2, x3⟩ := G.rotaX (NF := NF) w1 g
        obtain ⟨F', y1⟩ := G.rotaY (NF := NF) (w1 := w1) (g := g) p
        simp only [gsX_X10_rota_1, a1, if_neg c0, if_neg c2, if_pos c3, x3, x1, x2] at e
        simp only [gsY_X11_rota_1, gsY_X11_isIn_1, if_neg c2, if_neg c3', ite11, if_true, a2, if_neg c0, y1] at e'
        cases e'
        by_cases c4 : p = 0
        · rw [if_pos c4] at e ⊢; cases e; rfl
        · rw [if_neg c4] at e ⊢; cases e; rfl
    · have c3' : (1 : Int32) < p := lt_of_nle c3
      simp only [gsX_X10_rota_1, if_neg c2, if_neg c3] at e
      simp only [gsY_X11_rota_1, gsY_X11_isIn_1, if_neg c2, if_pos c3', ite01] at e'
      cases e'
      by_cases c0 : v 31 = 0
      · rw [if_pos c0] at e; cases e; rfl
      · rw [if_neg c0] at e; cases e; rfl
end
end
section
section
variable {NF : Nat}
theorem lsY {x y : Nat} (hx : x < 2 ^ 31) (hy : y < 2 ^ 31) {V : Nat → Int32} {F : Nat → Nat → Int32} {W : Int64} {K : Nat → Int64} : gsY_X11_lesser_1 NF (nI x) (nI y) V F W K = nI (min x y) := by
  simp only [gsY_X11_lesser_1]
  by_cases c : y ≤ x
  · rw [if_pos (nI_le c hx), show min x y = y by omega]
  · rw [if_neg (nI_ge (by omega) hy), show min x y = x by omega]
theorem grY {x y : Nat} (hx : x < 2 ^ 31) (hy : y < 2 ^ 31) {V : Nat → Int32} {F : Nat → Nat → Int32} {W : Int64} {K : Nat → Int64} : gsY_X11_greater_1 NF (nI x) (nI y) V F W K = nI (max x y) := by
  simp only [gsY_X11_greater_1]
  by_cases c : x ≤ y
  · rw [if_pos (nI_le c hy), show max x y = y by omega]
  · rw [if_neg (nI_ge (by omega) hx), show max x y = x by omega]
end
end
section
section
variable {NF : Nat} {v : Nat → Int32} {f : Nat → Nat → Int32} {v1 : Nat → Int32} {f1 : Nat → Nat → Int32} {w1 : Int64} {g : Nat → Int64} {a b : Nat} {r r' : Int32} {u : (Nat → Int32) × (Nat → Nat → Int32)} {u' : (Nat → Int32) × (Nat → Nat → Int32) × Int64 × (Nat → Int64)}
def RI (NF : Nat) (v1 : Nat → Int32) (f1 : Nat → Nat → Int32) (w1 : Int64) (g : Nat → Int64) : Nat → Nat → Int32 := yI NF v1 (A24 f1) w1 g
def IL (NF : Nat) (v1 : Nat → Int32) (f1 : Nat → Nat → Int32) (w1 : Int64) (g : Nat → Int64) (b m c : Nat) (s : Nat → Nat → Int32) : Prop := (∀ q, q ≠ 7 → q ≠ 8 → q ≠ 24 → q ≠ 28 → s q = f1 q) ∧ (∀ k, k < 39 → s 24 k = f1 23 k) ∧ ∀ m' c', c' < b → (m' < m ∨ (m' = m ∧ c' < c)) → s 28 (6 * m' + c') = RI NF v1 f1 w1 g m' c'
theorem GS.ills12 (G : GS v f v1 f1 a b) (b2 : v1 25 = nI b) (w1 : Int64) (g : Nat → Int64) {m : Nat} (hm : m < a) (k6 : Int32 → (Nat → Int32) → (Nat → Nat → Int32) → Int64 → (Nat → Int64) → ((Nat → Int32) × (Nat → Nat → Int32) × (Int64) × (Nat → Int64))) {F0 : Nat → Nat → Int32} (h0 : IL NF v1 f1 w1 g b m 0 F0) : ∃ F' : Nat → Nat → Int32, IL NF v1 f1 w1 g b (m + 1) 0 F' ∧ gsY_X11_layIlls_1_L12 NF v1 (nI m) k6 (4294967296 + NF) 0 v1 F0 w1 g = k6 (nI (m + 1)) v1 F' w1 g := by
  obtain ⟨a1, a2, a3, b1, b3, sm, sf, es, nw⟩ := G
  refine lpQ (S := Nat → Nat → Int32) (fun fu i s => gsY_X11_layIlls_1_L12 NF v1 (nI m) k6 fu i v1 s w1 g) (fun r => ∃ F' : Nat → Nat → Int32, IL NF v1 f1 w1 g b (m + 1) 0 F' ∧ r = k6 (nI (m + 1)) v1 F' w1 g) (fun j s => IL NF v1 f1 w1 g b m j s) b ?_ ?_ b 0 (4294967296 + NF) F0 (by omega) (by omega) h0
  · rintro fu c s hc ⟨h1, h2, h3⟩
    have nle : ¬ nI b ≤ nI c := nI_ge hc (by omega)
    obtain ⟨B, i1, _, i3, _⟩ := illY (NF := NF) (F1 := A24 f1) (F2 := s) (w1 := w1) (g := g) a1 a3 b1 b3 sm sf (show 999 ≤ 9999 by decide) (fun q hq => A24_n (by omega)) (fun q hq => h1 q (by omega) (by omega) (by omega) (by omega)) (x := f 15) (by rw [A24_e]; exact nw.cms) (nw.cms.cg a3 b3 (fun _ _ => rfl) (fun k hk => h2 k (by omega))) hm hc
    have e6 : (6 : Int32) * nI m = nI (6 * m) := nI_mulI 6 m
    have e7 : nI (6 * m) + nI c = nI (6 * m + c) := nI_add _ _
    have e8 : (nI (6 * m + c)).toNatClampNeg = 6 * m + c := nI_clamp (by omega)
    refine Or.inl ⟨upd2 B 28 (upd (B 28) (6 * m + c) (yI NF v1 (A24 f1) w1 g m c)), ⟨fun q z1 z2 z3 z4 => ?_, fun k hk => ?_, fun m' c' hc' hq => ?_⟩, ?_⟩
    · rw [u2n z4, i3 q z1 z2]; exact h1 q z1 z2 z3 z4
    · rw [u2n (by decide), i3 24 (by decide) (by decide)]; exact h2 k hk
    · rw [u2_e]
      by_cases e : 6 * m' + c' = 6 * m + c
      · have em : m' = m := by omega
        have ec : c' = c := by omega
        subst em; subst ec
        rw [ud_e]; rfl
      · rw [ud_n e, i3 28 (by decide) (by decide)]
        exact h3 m' c' hc' (by omega)
    · show gsY_X11_layIlls_1_L12 NF v1 (nI m) k6 (fu + 1) (nI c) v1 s w1 g = gsY_X11_layIlls_1_L12 NF v1 (nI m) k6 fu (nI (c + 1)) v1 (upd2 B 28 (upd (B 28) (6 * m + c) (yI NF v1 (A24 f1) w1 g m c))) w1 g
      conv => lhs; unfold gsY_X11_layIlls_1_L12
      simp only [b2, if_neg nle, i1, e6, e7, e8, nI_1]
  · rintro fu s ⟨h1, h2, h3⟩
    refine ⟨s, ⟨h1, h2, fun m' c' hc' hq => h3 m' c' hc' (by omega)⟩, ?_⟩
    show gsY_X11_layIlls_1_L12 NF v1 (nI m) k6 (fu + 1) (nI b) v1 s w1 g = _
    conv => lhs; unfold gsY_X11_layIlls_1_L12
    simp only [b2, if_pos (nI_le (Nat.le_refl b) (show b < 2 ^ 31 by omega)), nI_1]
theorem GS.illsY (G : GS v f v1 f1 a b) (b2 : v1 25 = nI b) (w1 : Int64) (g : Nat → Int64) : ∃ F : Nat → Nat → Int32, (∀ q, q ≠ 7 → q ≠ 8 → q ≠ 24 → q ≠ 28 → F q = f1 q) ∧ (∀ k, k < 39 → F 24 k = f1 23 k) ∧ (∀ m c, m < a → c < b → F 28 (6 * m + c) = RI NF v1 f1 w1 g m c) ∧ gsY_X11_layIlls_1 NF v1 f1 w1 g = (v1, F, w1, g) := by
  have a2 := G.2.1
  have a3 := G.2.2.1
  obtain ⟨A, q1, q2, q3⟩ := yFill (NF := NF) (V := v1) (F0 := f1) (W := w1) (G := g)
  have i0 : IL NF v1 f1 w1 g b 0 0 A := ⟨fun q _ _ z _ => q1 q z, fun k hk => q2 k hk, fun m' c' _ hq => by omega⟩
  have key : ∃ F : Nat → Nat → Int32, IL NF v1 f1 w1 g b a 0 F ∧ gsY_X11_layIlls_1_L6 NF v1 (4294967296 + NF) 0 v1 A w1 g = (v1, F, w1, g) := by
    refine lpQ (S := Nat → Nat → Int32) (fun fu i s => gsY_X11_layIlls_1_L6 NF v1 fu i v1 s w1 g) (fun r => ∃ F : Nat → Nat → Int32, IL NF v1 f1 w1 g b a 0 F ∧ r = (v1, F, w1, g)) (fun j s => IL NF v1 f1 w1 g b j 0 s) a ?_ ?_ a 0 (4294967296 + NF) A (by omega) (by omega) i0
    · intro fu m s hm hs
      have nle : ¬ nI a ≤ nI m := nI_ge hm (by omega)
      obtain ⟨F', j1, j2⟩ := G.ills12 (NF := NF) b2 w1 g hm (fun z0 z1 z2 z3 z4 => gsY_X11_layIlls_1_L6 NF v1 fu z0 z1 z2 z3 z4) hs
      refine Or.inl ⟨F', j1, ?_⟩
      show gsY_X11_layIlls_1_L6 NF v1 (fu + 1) (nI m) v1 s w1 g = gsY_X11_layIlls_1_L6 NF v1 fu (nI (m + 1)) v1 F' w1 g
      conv => lhs; unfold gsY_X11_layIlls_1_L6
      simp only [a2, if_neg nle]
      exact j2
    · intro fu s hs
      refine ⟨s, hs, ?_⟩
      show gsY_X11_layIlls_1_L6 NF v1 (fu + 1) (nI a) v1 s w1 g = _
      conv => lhs; unfold gsY_X11_layIlls_1_L6
      simp only [a2]
      rw [if_pos (nI_le (Nat.le_refl _) (by omega))]
  obtain ⟨F, ⟨k1, k2, k3⟩, k4⟩ := key
  refine ⟨F, k1, k2, fun m c hm hc => k3 m c hc (Or.inl hm), ?_⟩
  simp only [gsY_X11_layIlls_1, q3]
  exact k4
theorem GS.illV (G : GS v f v1 f1 a b) (w1 : Int64) (g : Nat → Int64) {V : Nat → Int32} {y : Nat → Nat → Int32} (hV : ∀ k, k < 38 → V k = v k) (hy : ∀ q, q < 20 → q ≠ 13 → q ≠ 14 → y q = f q) {m c : Nat} (hm : m < a) (hc : c < b) : ∃ y' : Nat → Nat → Int32, (∀ q, q ≠ 13 → q ≠ 14 → y' q = y q) ∧ gsX_X1_illness_1 NF (nI m) (nI c) V y = (RI NF v1 f1 w1 g m c, V, y') := by
  obtain ⟨a1, a2, a3, b1, b3, sm, sf, es, nw⟩ := G
  have sf' : STF V f v1 f1 := by
    unfold STF
    rw [hV 18 (by decide)]
    exact sf
  obtain ⟨F', i1, _, i3⟩ := fitX1 (NF := NF) (v := V) (F := y) (F1 := A24 f1) (v1 := v1) (w1 := w1) (g := g) ((hV 31 (by decide)).trans a1) a3 ((hV 32 (by decide)).trans b1) b3 sm sf' (show 999 ≤ 9999 by decide) (fun q hq => hy q (by omega) (by omega) (by omega)) (fun q hq => A24_n (by omega)) (by rw [hy 15 (by decide) (by decide) (by decide), A24_e]; exact nw.cms) hm hc
  exact ⟨F', i3, i1⟩
theorem GS.rge (G : GS v f v1 f1 a b) (w1 : Int64) (g : Nat → Int64) {m c : Nat} (hm : m < a) (hc : c < b) : 0 ≤ RI NF v1 f1 w1 g m c ∧ RI NF v1 f1 w1 g m c ≤ 999 := by
  obtain ⟨a1, a2, a3, b1, b3, sm, sf, es, nw⟩ := G
  obtain ⟨_, _, _, _, i4⟩ := illY (NF := NF) (F1 := A24 f1) (F2 := A24 f1) (w1 := w1) (g := g) a1 a3 b1 b3 sm sf (show 999 ≤ 9999 by decide) (fun q hq => A24_n (by omega)) (fun q hq => A24_n (by omega)) (x := f 15) (by rw [A24_e]; exact nw.cms) (by rw [A24_e]; exact nw.cms) hm hc
  exact i4
theorem GS.cv {V V1 : Nat → Int32} (G : GS v f v1 f1 a b) (hV : ∀ k, k < 38 → V k = v k) (hV1 : ∀ k, k < 37 → V1 k = v1 k) : GS V f V1 f1 a b := by
  obtain ⟨a1, a2, a3, b1, b3, sm, sf, es, nw⟩ := G
  refine ⟨(hV 31 (by decide)).trans a1, (hV1 24 (by decide)).trans a2, a3, (hV 32 (by decide)).trans b1, b3, sm, ?_, ?_, nw⟩
  · unfold STF
    rw [hV 18 (by decide), hV1 16 (by decide), hV1 9 (by decide)]
    exact sf
  · rw [hV 33 (by decide), hV1 26 (by decide)]; exact es
end
end
section
section
variable {ft : Nat → Nat → Bool} {R : Nat → Nat → Nat} {a b : Nat} {dg dg' : Nat → Nat}
def mxN (h : Nat → Nat) (s : Nat) : Nat → Nat
  | 0 => s
  | k + 1 => max (mxN h s k) (h k)
theorem mxN_ge0 {h : Nat → Nat} {s : Nat} : ∀ k, s ≤ mxN h s k := by
  intro k
  induction k with
  | zero => exact Nat.le_refl _
  | succ k ih => exact Nat.le_trans ih (Nat.le_max_left _ _)
theorem mxN_ge {h : Nat → Nat} {s : Nat} : ∀ k c, c < k → h c ≤ mxN h s k := by
  intro k
  induction k with
  | zero => intro c hc; omega
  | succ k ih =>
    intro c hc
    show h c ≤ max (mxN h s k) (h k)
    by_cases e : c = k
    · subst e; exact Nat.le_max_right _ _
    · exact Nat.le_trans (ih c (by omega)) (Nat.le_max_left _ _)
theorem mxN_at {h : Nat → Nat} {s : Nat} : ∀ k, mxN h s k = s ∨ ∃ c, c < k ∧ mxN h s k = h c := by
  intro k
  induction k with
  | zero => exact Or.inl rfl
  | succ k ih =>
    have e : mxN h s (k + 1) = max (mxN h s k) (h k) := rfl
    by_cases q : h k ≤ mxN h s k
    · have e2 : mxN h s (k + 1) = mxN h s k := by rw [e]; omega
      rw [e2]
      rcases ih with ih | ⟨c, h1, h2⟩
      · exact Or.inl ih
      · exact Or.inr ⟨c, by omega, h2⟩
    · exact Or.inr ⟨k, by omega, by rw [e]; omega⟩
theorem mxN_le {h : Nat → Nat} {s B : Nat} (hs : s ≤ B) (hh : ∀ c, h c ≤ B) : ∀ k, mxN h s k ≤ B := by
  intro k
  induction k with
  | zero => exact hs
  | succ k ih => exact Nat.max_le.mpr ⟨ih, hh k⟩
def wgD (ft : Nat → Nat → Bool) (R : Nat → Nat → Nat) (B : Nat → Nat) (m T c : Nat) : Nat := if ft m c = true ∧ T.testBit c = false then 10000 - R m c + B (T ||| 2 ^ c) else 0
def bsN (ft : Nat → Nat → Bool) (R : Nat → Nat → Nat) (a b : Nat) : Nat → Nat → Nat
  | 0 => fun _ => 0
  | n + 1 => fun T => mxN (wgD ft R (bsN ft R a b n) (a - 1 - n) T) (bsN ft R a b n T) b
theorem bs_le : ∀ n T, bsN ft R a b n T ≤ 10000 * n := by
  intro n
  induction n with
  | zero => intro T; exact Nat.zero_le _
  | succ n ih =>
    intro T
    show mxN (wgD ft R (bsN ft R a b n) (a - 1 - n) T) (bsN ft R a b n T) b ≤ 10000 * (n + 1)
    have q := ih T
    refine mxN_le (by omega) (fun c => ?_) b
    unfold wgD
    have q2 := ih (T ||| 2 ^ c)
    split <;> omega
theorem bs_s {n m T : Nat} (h : m + (n + 1) = a) : bsN ft R a b (n + 1) T = mxN (wgD ft R (bsN ft R a b n) m T) (bsN ft R a b n T) b := by
  have e : a - 1 - n = m := by omega
  rw [← e]
  rfl
def cD (b : Nat) (dg : Nat → Nat) : Nat → Nat
  | 0 => 0
  | n + 1 => cD b dg n + (if dg n < b then 1 else 0)
def iD (R : Nat → Nat → Nat) (b : Nat) (dg : Nat → Nat) : Nat → Nat
  | 0 => 0
  | n + 1 => iD R b dg n + (if dg n < b then R n (dg n) else 0)
def VD (ft : Nat → Nat → Bool) (a b : Nat) (dg : Nat → Nat) : Prop := (∀ i, i < a → dg i < b → ft i (dg i) = true) ∧ ∀ i j, i < j → j < a → dg i < b → dg i ≠ dg j
theorem cD_1 {n : Nat} (h : dg n < b) : cD b dg (n + 1) = cD b dg n + 1 := by
  show cD b dg n + (if dg n < b then 1 else 0) = _
  rw [if_pos h]
theorem cD_0 {n : Nat} (h : ¬ dg n < b) : cD b dg (n + 1) = cD b dg n := by
  show cD b dg n + (if dg n < b then 1 else 0) = _
  rw [if_neg h, Nat.add_zero]
theorem iD_1 {n : Nat} (h : dg n < b) : iD R b dg (n + 1) = iD R b dg n + R n (dg n) := by
  show iD R b dg n + (if dg n < b then R n (dg n) else 0) = _
  rw [if_pos h]
theorem iD_0 {n : Nat} (h : ¬ dg n < b) : iD R b dg (n + 1) = iD R b dg n := by
  show iD R b dg n + (if dg n < b then R n (dg n) else 0) = _
  rw [if_neg h, Nat.add_zero]
theorem cD_le : ∀ n, cD b dg n ≤ n := by
  intro n
  induction n with
  | zero => exact Nat.le_refl _
  | succ n ih =>
    by_cases h : dg n < b
    · rw [cD_1 h]; omega
    · rw [cD_0 h]; omega
theorem iD_le (hR : ∀ m c, m < a → c < b → R m c ≤ 999) : ∀ n, n ≤ a → iD R b dg n ≤ 999 * n := by
  intro n
  induction n with
  | zero => intro _; exact Nat.le_refl _
  | succ n ih =>
    intro hn
    have q := ih (by omega)
    by_cases h : dg n < b
    · have := hR n (dg n) (by omega) h
      rw [iD_1 h]; omega
    · rw [iD_0 h]; omega
theorem cD_cg : ∀ n, (∀ i, i < n → dg i = dg' i) → cD b dg n = cD b dg' n := by
  intro n
  induction n with
  | zero => intro _; rfl
  | succ n ih =>
    intro h
    show cD b dg n + (if dg n < b then 1 else 0) = cD b dg' n + (if dg' n < b then 1 else 0)
    rw [ih (fun i hi => h i (by omega)), h n (by omega)]
theorem iD_cg : ∀ n, (∀ i, i < n → dg i = dg' i) → iD R b dg n = iD R b dg' n := by
  intro n
  induction n with
  | zero => intro _; rfl
  | succ n ih =>
    intro h
    show iD R b dg n + (if dg n < b then R n (dg n) else 0) = iD R b dg' n + (if dg' n < b then R n (dg' n) else 0)
    rw [ih (fun i hi => h i (by omega)), h n (by omega)]
theorem VD_cg (h : ∀ i, i < a → dg i = dg' i) (V : VD ft a b dg) : VD ft a b dg' := by
  refine ⟨fun i hi hb => ?_, fun i j hij hj hb => ?_⟩
  · rw [← h i hi] at hb ⊢
    exact V.1 i hi hb
  · rw [← h i (by omega)] at hb ⊢
    rw [← h j hj]
    exact V.2 i j hij hj hb
theorem dr_ub (hR : ∀ m c, m < a → c < b → R m c ≤ 999) (V : VD ft a b dg) : ∀ n m T, m + n = a → (∀ j, m ≤ j → j < a → dg j < b → T.testBit (dg j) = false) → 10000 * cD b dg a + iD R b dg m ≤ bsN ft R a b n T + iD R b dg a + 10000 * cD b dg m := by
  intro n
  induction n with
  | zero =>
    intro m T e _
    rw [show m = a by omega]
    show 10000 * cD b dg a + iD R b dg a ≤ 0 + iD R b dg a + 10000 * cD b dg a
    omega
  | succ n ih =>
    intro m T e hT
    have w0 := mxN_ge0 (h := wgD ft R (bsN ft R a b n) m T) (s := bsN ft R a b n T) b
    rw [bs_s e]
    by_cases hc : dg m < b
    · have q := hT m (Nat.le_refl m) (by omega) hc
      have f := V.1 m (by omega) hc
      have i1 := ih (m + 1) (T ||| 2 ^ dg m) (by omega) (fun j h1 h2 h3 => by
        rw [Nat.testBit_or, hT j (by omega) h2 h3, Nat.testBit_two_pow, decide_eq_false (V.2 m j (by omega) h2 hc)]; rfl)
      have w := mxN_ge (h := wgD ft R (bsN ft R a b n) m T) (s := bsN ft R a b n T) b (dg m) hc
      have wv : wgD ft R (bsN ft R a b n) m T (dg m) = 10000 - R m (dg m) + bsN ft R a b n (T ||| 2 ^ dg m) := if_pos ⟨f, q⟩
      have r := hR m (dg m) (by omega) hc
      rw [wv] at w
      rw [cD_1 hc, iD_1 hc] at i1
      omega
    · have i1 := ih (m + 1) T (by omega) (fun j h1 h2 h3 => hT j (by omega) h2 h3)
      rw [cD_0 hc, iD_0 hc] at i1
      omega
def dgD (K a code m : Nat) : Nat := code / K ^ (a - 1 - m) % K
def enD (K : Nat) (c : Nat → Nat) : Nat → Nat
  | 0 => 0
  | n + 1 => enD K c n * K + c n
theorem enD_lt {K : Nat} {c : Nat → Nat} : ∀ n, (∀ i, i < n → c i < K) → enD K c n < K ^ n := by
  intro n
  induction n with
  | zero => intro _; exact Nat.one_pos
  | succ n ih =>
    intro h
    have h1 := ih (fun i hi => h i (by omega))
    have h2 := h n (by omega)
    show enD K c n * K + c n < K ^ (n + 1)
    have h3 : (enD K c n + 1) * K ≤ K ^ n * K := Nat.mul_le_mul_right K h1
    rw [Nat.succ_mul] at h3
    rw [Nat.pow_succ]
    omega
theorem enD_dg {K : Nat} {c : Nat → Nat} : ∀ n, (∀ i, i < n → c i < K) → ∀ m, m < n → dgD K n (enD K c n) m = c m := by
  intro n
  induction n with
  | zero => intro _ m h; omega
  | succ n ih =>
    intro h m hm
    have hn := h n (by omega)
    have hK : 0 < K := by omega
    unfold dgD
    show (enD K c n * K + c n) / K ^ (n + 1 - 1 - m) % K = c m
    by_cases e : m = n
    · subst e
      rw [show m + 1 - 1 - m = 0 by omega, Nat.pow_zero, Nat.div_one, Nat.add_comm, Nat.add_mul_mod_self_right, Nat.mod_eq_of_lt hn]
    · rw [show n + 1 - 1 - m = (n - 1 - m) + 1 by omega, Nat.pow_succ, Nat.mul_comm (K ^ (n - 1 - m)) K, ← Nat.div_div_eq_div_mul]
      have q : (enD K c n * K + c n) / K = enD K c n := by
        rw [Nat.mul_comm, Nat.mul_add_div hK, Nat.div_eq_of_lt hn, Nat.add_zero]
      rw [q]
      exact ih (fun i hi => h i (by omega)) m (by omega)
theorem bitD : ∀ T, T < 64 → ∀ c, c < 6 → ((nI T >>> (nI c &&& 31)) &&& 1 = nI (if T.testBit c = true then 1 else 0)) ∧ nI T ||| ((1 : Int32) <<< (nI c &&& 31)) = nI (T ||| 2 ^ c) ∧ T ||| 2 ^ c < 64 := by decide +kernel
theorem mxI {A B : Nat} (hA : A < 2 ^ 31) (hB : B < 2 ^ 31) : (if nI A < nI B then nI B else nI A) = nI (max A B) := by
  by_cases c : A < B
  · rw [if_pos (nI_lt c hB), show max A B = B by omega]
  · rw [if_neg (nI_nlt (show B ≤ A by omega) hA), show max A B = A by omega]
theorem nlt1 {A : Nat} (hA : A < 2 ^ 31) : ¬ nI A < (-1 : Int32) := fun z => by
  have q := (fa_lt _ _).mp z
  rw [nI_toInt hA, show (-1 : Int32).toInt = -1 by decide] at q
  omega
end
end
section
section
variable {NF : Nat} {v : Nat → Int32} {f : Nat → Nat → Int32} {v1 : Nat → Int32} {f1 : Nat → Nat → Int32} {w1 : Int64} {g : Nat → Int64} {a b : Nat}
def gI (E : Int32) (I : Nat → Nat → Int32) (m c : Nat) : Int32 := if E < I m c then -1 else 10000 - I m c
def GN (E : Int32) (I : Nat → Nat → Int32) (b : Nat) (y : Nat → Nat → Int32) (M C : Nat) : Prop := ∀ m c, c < b → (m < M ∨ (m = M ∧ c < C)) → y 22 (m * 6 + c) = gI E I m c
def FDX (f y : Nat → Nat → Int32) : Prop := ∀ q, q < 20 → q ≠ 13 → q ≠ 14 → y q = f q
abbrev KD7 : Type := Int32 → (Nat → Int32) → (Nat → Nat → Int32) → ((Nat → Int32) × (Nat → Nat → Int32))
theorem GS.gain7 (G : GS v f v1 f1 a b) (w1 : Int64) (g : Nat → Int64) {m : Nat} (hm : m < a) (k1 : KD7) {y : Nat → Nat → Int32} (hy : FDX f y) (h0 : GN (v 33) (RI NF v1 f1 w1 g) b y m 0) : ∃ y' : Nat → Nat → Int32, (FDX f y' ∧ GN (v 33) (RI NF v1 f1 w1 g) b y' (m + 1) 0) ∧ gsX_X0_reckonGains_1_L7 NF v (nI m) k1 (4294967296 + NF) 0 v y = k1 (nI (m + 1)) v y' := by
  have hG := G
  obtain ⟨a1, a2, a3, b1, b3, _, _, _, _⟩ := hG
  refine lpQ (S := Nat → Nat → Int32) (fun fu i s => gsX_X0_reckonGains_1_L7 NF v (nI m) k1 fu i v s) (fun r => ∃ y' : Nat → Nat → Int32, (FDX f y' ∧ GN (v 33) (RI NF v1 f1 w1 g) b y' (m + 1) 0) ∧ r = k1 (nI (m + 1)) v y') (fun c s => FDX f s ∧ GN (v 33) (RI NF v1 f1 w1 g) b s m c) b ?_ ?_ b 0 (4294967296 + NF) y (by omega) (by omega) ⟨hy, h0⟩
  · rintro fu c s hc ⟨h1, h2⟩
    have nle : ¬ nI b ≤ nI c := nI_ge hc (by omega)
    obtain ⟨B, i3, i1⟩ := G.illV (NF := NF) w1 g (V := v) (y := s) (fun _ _ => rfl) h1 hm hc
    have e6 : nI m * 6 = nI (m * 6) := nI_mulI m 6
    have e7 : nI (m * 6) + nI c = nI (m * 6 + c) := nI_add _ _
    have e8 : (nI (m * 6 + c)).toNatClampNeg = m * 6 + c := nI_clamp (by omega)
    have nx : ∀ x : Int32, x = gI (v 33) (RI NF v1 f1 w1 g) m c → FDX f (upd2 B 22 (upd (B 22) (m * 6 + c) x)) ∧ GN (v 33) (RI NF v1 f1 w1 g) b (upd2 B 22 (upd (B 22) (m * 6 + c) x)) m (c + 1) := fun x hx => by
      refine ⟨fun q z1 z2 z3 => ?_, fun m' c' hc' hq => ?_⟩
      · rw [u2n (by omega), i3 q z2 z3]; exact h1 q z1 z2 z3
      · rw [u2_e]
        by_cases e : m' * 6 + c' = m * 6 + c
        · have em : m' = m := by omega
          have ec : c' = c := by omega
          subst em; subst ec
          rw [ud_e]; exact hx
        · rw [ud_n e, i3 22 (by decide) (by decide)]
          exact h2 m' c' hc' (by omega)
    by_cases z : v 33 < (RI NF v1 f1 w1 g) m c
    · refine Or.inl ⟨upd2 B 22 (upd (B 22) (m * 6 + c) (-1)), nx (-1) (if_pos z).symm, ?_⟩
      show gsX_X0_reckonGains_1_L7 NF v (nI m) k1 (fu + 1) (nI c) v s = gsX_X0_reckonGains_1_L7 NF v (nI m) k1 fu (nI (c + 1)) v (upd2 B 22 (upd (B 22) (m * 6 + c) (-1)))
      conv => lhs; unfold gsX_X0_reckonGains_1_L7
      simp only [b1, if_neg nle, i1, if_pos z, e6, e7, e8, nI_1]
    · refine Or.inl ⟨upd2 B 22 (upd (B 22) (m * 6 + c) (10000 - (RI NF v1 f1 w1 g) m c)), nx (10000 - (RI NF v1 f1 w1 g) m c) (if_neg z).symm, ?_⟩
      show gsX_X0_reckonGains_1_L7 NF v (nI m) k1 (fu + 1) (nI c) v s = gsX_X0_reckonGains_1_L7 NF v (nI m) k1 fu (nI (c + 1)) v (upd2 B 22 (upd (B 22) (m * 6 + c) (10000 - (RI NF v1 f1 w1 g) m c)))
      conv => lhs; unfold gsX_X0_reckonGains_1_L7
      simp only [b1, if_neg nle, i1, if_neg z, e6, e7, e8, nI_1]
  · rintro fu s ⟨h1, h2⟩
    refine ⟨s, ⟨h1, fun m' c' hc' hq => h2 m' c' hc' (by omega)⟩, ?_⟩
    show gsX_X0_reckonGains_1_L7 NF v (nI m) k1 (fu + 1) (nI b) v s = _
    conv => lhs; unfold gsX_X0_reckonGains_1_L7
    simp only [b1, if_pos (nI_le (Nat.le_refl b) (show b < 2 ^ 31 by omega)), nI_1]
theorem GS.gainX (G : GS v f v1 f1 a b) (w1 : Int64) (g : Nat → Int64) : ∃ y' : Nat → Nat → Int32, FDX f y' ∧ (∀ m c, m < a → c < b → y' 22 (m * 6 + c) = gI (v 33) (RI NF v1 f1 w1 g) m c) ∧ gsX_X0_reckonGains_1 NF v f = (v, y') := by
  have a1 := G.1
  have a3 := G.2.2.1
  refine lpQ (S := Nat → Nat → Int32) (fun fu i s => gsX_X0_reckonGains_1_L1 NF v fu i v s) (fun r => ∃ y' : Nat → Nat → Int32, FDX f y' ∧ (∀ m c, m < a → c < b → y' 22 (m * 6 + c) = gI (v 33) (RI NF v1 f1 w1 g) m c) ∧ r = (v, y')) (fun m s => FDX f s ∧ GN (v 33) (RI NF v1 f1 w1 g) b s m 0) a ?_ ?_ a 0 (4294967296 + NF) f (by omega) (by omega) ⟨fun _ _ _ _ => rfl, fun m' c' _ hq => by omega⟩
  · rintro fu m s hm ⟨h1, h2⟩
    have nle : ¬ nI a ≤ nI m := nI_ge hm (by omega)
    obtain ⟨y', j1, j2⟩ := G.gain7 (NF := NF) w1 g hm (fun z0 z1 z2 => gsX_X0_reckonGains_1_L1 NF v fu z0 z1 z2) h1 h2
    refine Or.inl ⟨y', j1, ?_⟩
    show gsX_X0_reckonGains_1_L1 NF v (fu + 1) (nI m) v s = gsX_X0_reckonGains_1_L1 NF v fu (nI (m + 1)) v y'
    conv => lhs; unfold gsX_X0_reckonGains_1_L1
    simp only [a1, if_neg nle]
    exact j2
  · rintro fu s ⟨h1, h2⟩
    refine ⟨s, h1, fun m c hm hc => h2 m c hc (Or.inl hm), ?_⟩
    show gsX_X0_reckonGains_1_L1 NF v (fu + 1) (nI a) v s = _
    conv => lhs; unfold gsX_X0_reckonGains_1_L1
    simp only [a1]
    rw [if_pos (nI_le (Nat.le_refl _) (by omega))]
theorem fillD {V : Nat → Int32} {y : Nat → Nat → Int32} : ∃ y' : Nat → Nat → Int32, (∀ q, q ≠ 21 → y' q = y q) ∧ (∀ k, k < 448 → y' 21 k = 0) ∧ gsX_J7_fill_53178_2 NF 0 V y = (V, y') := by
  refine lpQ (S := Nat → Nat → Int32) (fun fu i s => gsX_J7_fill_53178_2_L1 NF 0 fu i V s) (fun r => ∃ y' : Nat → Nat → Int32, (∀ q, q ≠ 21 → y' q = y q) ∧ (∀ k, k < 448 → y' 21 k = 0) ∧ r = (V, y')) (fun j s => (∀ q, q ≠ 21 → s q = y q) ∧ ∀ k, k < j → s 21 k = 0) 448 ?_ ?_ 448 0 (4294967296 + NF) y (by omega) (by omega) ⟨fun _ _ => rfl, fun k hk => absurd hk (Nat.not_lt_zero _)⟩
  · rintro fu j s hj ⟨h1, h2⟩
    have nle : ¬ (448 : Int32) ≤ nI j := lit_nle (b := 448) rfl hj (by decide)
    have cj : (nI j).toNatClampNeg = j := nI_clamp (by omega)
    refine Or.inl ⟨upd2 s 21 (upd (s 21) j 0), ⟨fun q hq => (u2n hq).trans (h1 q hq), fun k hk => ?_⟩, ?_⟩
    · rw [u2_e]
      by_cases e : k = j
      · rw [e, ud_e]
      · rw [ud_n e]; exact h2 k (by omega)
    · show gsX_J7_fill_53178_2_L1 NF 0 (fu + 1) (nI j) V s = gsX_J7_fill_53178_2_L1 NF 0 fu (nI (j + 1)) V (upd2 s 21 (upd (s 21) j 0))
      conv => lhs; unfold gsX_J7_fill_53178_2_L1
      simp only [if_neg nle, cj, nI_1]
  · rintro fu s ⟨h1, h2⟩
    refine ⟨s, h1, h2, ?_⟩
    show gsX_J7_fill_53178_2_L1 NF 0 (fu + 1) (nI 448) V s = _
    conv => lhs; unfold gsX_J7_fill_53178_2_L1
    rw [if_pos (lit_le (L := 448) (b := 448) rfl (Nat.le_refl _) (by decide))]
section
variable {E : Int32} {I : Nat → Nat → Int32}
abbrev rI (I : Nat → Nat → Int32) (m c : Nat) : Nat := nv (I m c)
def RGE (I : Nat → Nat → Int32) (a b : Nat) : Prop := ∀ m c, m < a → c < b → rI I m c ≤ 999 ∧ I m c = nI (rI I m c)
theorem gI_1 {m c : Nat} (h : RGE I a b) (hm : m < a) (hc : c < b) (z : ¬ E < I m c) : gI E I m c = nI (10000 - rI I m c) := by
  obtain ⟨h1, h2⟩ := h m c hm hc
  unfold gI
  rw [if_neg z]
  have e : (10000 : Int32) - nI (rI I m c) = nI (10000 - rI I m c) := nI_subI (a := 10000) (by omega)
  rw [← e, ← h2]
theorem wrX {V : Nat → Int32} {y : Nat → Nat → Int32} {B : Nat → Nat} {m c T : Nat} (h : RGE I a b) (a3 : a ≤ 6) (b3 : b ≤ 6) (hm : m < a) (hc : c < b) (hT : T < 64) (h22 : y 22 (m * 6 + c) = gI E I m c) (h21 : ∀ T', T' < 64 → y 21 ((m + 1) * 64 + T') = nI (B T')) : (fB E I m c = true ∧ T.testBit c = false ∧ wgD (fB E I) (rI I) B m T c = 10000 - rI I m c + B (T ||| 2 ^ c) ∧ gsX_X0_worthOf_1 NF (nI m) (nI c) (nI T) V y = nI (10000 - rI I m c + B (T ||| 2 ^ c))) ∨ (¬ (fB E I m c = true ∧ T.testBit c = false) ∧ wgD (fB E I) (rI I) B m T c = 0 ∧ gsX_X0_worthOf_1 NF (nI m) (nI c) (nI T) V y = -1) := by
  have e6 : nI m * 6 = nI (m * 6) := nI_mulI m 6
  have e7 : nI (m * 6) + nI c = nI (m * 6 + c) := nI_add _ _
  have e8 : (nI (m * 6 + c)).toNatClampNeg = m * 6 + c := nI_clamp (by omega)
  obtain ⟨q1, q2, q3⟩ := bitD T hT c (by omega)
  obtain ⟨r1, r2⟩ := h m c hm hc
  by_cases z : E < I m c
  · have g0 : gI E I m c = -1 := if_pos z
    refine Or.inr ⟨fun q => fB_0 z q.1, if_neg (fun q => fB_0 z q.1), ?_⟩
    simp only [gsX_X0_worthOf_1, e6, e7, e8, h22, g0, if_true]
  · have g1 := gI_1 h hm hc z
    have n1 : ¬ nI (10000 - rI I m c) = -1 := nI_nm1 (by omega)
    by_cases t : T.testBit c = true
    · rw [if_pos t] at q1
      refine Or.inr ⟨fun q => by rw [t] at q; exact absurd q.2 (by decide), if_neg (fun q => by rw [t] at q; exact absurd q.2 (by decide)), ?_⟩
      simp only [gsX_X0_worthOf_1, e6, e7, e8, h22, g1, if_neg n1, q1]
      rw [if_neg (show ¬ nI 1 = 0 by decide)]
    · rw [if_neg t] at q1
      have f1 := fB_1 z
      have t0 := Bool.eq_false_iff.mpr t
      refine Or.inl ⟨f1, t0, if_pos ⟨f1, t0⟩, ?_⟩
      have e9 : nI (m + 1) * 64 = nI ((m + 1) * 64) := nI_mulI (m + 1) 64
      have e10 : nI ((m + 1) * 64) + nI (T ||| 2 ^ c) = nI ((m + 1) * 64 + (T ||| 2 ^ c)) := nI_add _ _
      have e11 : (nI ((m + 1) * 64 + (T ||| 2 ^ c))).toNatClampNeg = (m + 1) * 64 + (T ||| 2 ^ c) := nI_clamp (by omega)
      have e12 : nI (10000 - rI I m c) + nI (B (T ||| 2 ^ c)) = nI (10000 - rI I m c + B (T ||| 2 ^ c)) := nI_add _ _
      simp only [gsX_X0_worthOf_1, e6, e7, e8, h22, g1, if_neg n1, q1]
      rw [if_pos (show nI 0 = 0 by decide)]
      simp only [nI_1, e9, q2, e10, e11, h21 _ q3, e12]
theorem best21 {V0 V : Nat → Int32} {y : Nat → Nat → Int32} {m n T : Nat} (h : RGE I a b) (b1 : V0 32 = nI b) (a3 : a ≤ 6) (b3 : b ≤ 6) (hn : m + (n + 1) = a) (hT : T < 64) (h22 : ∀ c, c < b → y 22 (m * 6 + c) = gI E I m c) (h21 : ∀ T', T' < 64 → y 21 ((m + 1) * 64 + T') = nI (bsN (fB E I) (rI I) a b n T')) (k8 : KD7) : gsX_X0_reckonBest_1_L21 NF V0 (nI m) y (nI T) V k8 (4294967296 + NF) (nI (bsN (fB E I) (rI I) a b n T)) 0 = k8 (nI (T + 1)) V (upd2 y 21 (upd (y 21) (m * 64 + T) (nI (bsN (fB E I) (rI I) a b (n + 1) T)))) := by
  have bl : ∀ T', bsN (fB E I) (rI I) a b n T' ≤ 60000 := fun T' => by have := bs_le (ft := fB E I) (R := rI I) (a := a) (b := b) n T'; omega
  have ml : ∀ k, mxN (wgD (fB E I) (rI I) (bsN (fB E I) (rI I) a b n) m T) (bsN (fB E I) (rI I) a b n T) k ≤ 70000 := mxN_le (by have := bl T; omega) (fun c => by
    unfold wgD
    have := bl (T ||| 2 ^ c)
    split <;> omega)
  refine lpQ (S := Int32) (fun fu i s => gsX_X0_reckonBest_1_L21 NF V0 (nI m) y (nI T) V k8 fu s i) (fun r => r = k8 (nI (T + 1)) V (upd2 y 21 (upd (y 21) (m * 64 + T) (nI (bsN (fB E I) (rI I) a b (n + 1) T))))) (fun c s => s = nI (mxN (wgD (fB E I) (rI I) (bsN (fB E I) (rI I) a b n) m T) (bsN (fB E I) (rI I) a b n T) c)) b ?_ ?_ b 0 (4294967296 + NF) (nI (bsN (fB E I) (rI I) a b n T)) (by omega) (by omega) rfl
  · intro fu c s hc hs
    have hs : s = nI (mxN (wgD (fB E I) (rI I) (bsN (fB E I) (rI I) a b n) m T) (bsN (fB E I) (rI I) a b n T) c) := hs
    subst hs
    have nle : ¬ nI b ≤ nI c := nI_ge hc (by omega)
    have m0 := ml c
    refine Or.inl ⟨nI (mxN (wgD (fB E I) (rI I) (bsN (fB E I) (rI I) a b n) m T) (bsN (fB E I) (rI I) a b n T) (c + 1)), rfl, ?_⟩
    show gsX_X0_reckonBest_1_L21 NF V0 (nI m) y (nI T) V k8 (fu + 1) (nI (mxN (wgD (fB E I) (rI I) (bsN (fB E I) (rI I) a b n) m T) (bsN (fB E I) (rI I) a b n T) c)) (nI c) = gsX_X0_reckonBest_1_L21 NF V0 (nI m) y (nI T) V k8 fu (nI (max (mxN (wgD (fB E I) (rI I) (bsN (fB E I) (rI I) a b n) m T) (bsN (fB E I) (rI I) a b n T) c) (wgD (fB E I) (rI I) (bsN (fB E I) (rI I) a b n) m T c))) (nI (c + 1))
    conv => lhs; unfold gsX_X0_reckonBest_1_L21
    rcases wrX (NF := NF) (V := V) h a3 b3 (show m < a by omega) hc hT (h22 c hc) h21 with ⟨_, _, q3, q4⟩ | ⟨_, q3, q4⟩
    · have := bl (T ||| 2 ^ c)
      have mx := mxI (A := mxN (wgD (fB E I) (rI I) (bsN (fB E I) (rI I) a b n) m T) (bsN (fB E I) (rI I) a b n T) c) (B := 10000 - rI I m c + bsN (fB E I) (rI I) a b n (T ||| 2 ^ c)) (by omega) (by omega)
      simp only [b1, if_neg nle, q4, q3, mx, nI_1]
    · rw [q3, show max (mxN (wgD (fB E I) (rI I) (bsN (fB E I) (rI I) a b n) m T) (bsN (fB E I) (rI I) a b n T) c) 0 = mxN (wgD (fB E I) (rI I) (bsN (fB E I) (rI I) a b n) m T) (bsN (fB E I) (rI I) a b n T) c by omega]
      simp only [b1, if_neg nle, q4, if_neg (nlt1 (show mxN (wgD (fB E I) (rI I) (bsN (fB E I) (rI I) a b n) m T) (bsN (fB E I) (rI I) a b n T) c < 2 ^ 31 by omega)), nI_1]
  · intro fu s hs
    have hs : s = nI (mxN (wgD (fB E I) (rI I) (bsN (fB E I) (rI I) a b n) m T) (bsN (fB E I) (rI I) a b n T) b) := hs
    subst hs
    have e6 : nI m * 64 = nI (m * 64) := nI_mulI m 64
    have e7 : nI (m * 64) + nI T = nI (m * 64 + T) := nI_add _ _
    have e8 : (nI (m * 64 + T)).toNatClampNeg = m * 64 + T := nI_clamp (by omega)
    rw [bs_s hn]
    show gsX_X0_reckonBest_1_L21 NF V0 (nI m) y (nI T) V k8 (fu + 1) (nI (mxN (wgD (fB E I) (rI I) (bsN (fB E I) (rI I) a b n) m T) (bsN (fB E I) (rI I) a b n T) b)) (nI b) = _
    conv => lhs; unfold gsX_X0_reckonBest_1_L21
    simp only [b1, if_pos (nI_le (Nat.le_refl b) (show b < 2 ^ 31 by omega)), e6, e7, e8, nI_1]
def TB (E : Int32) (I : Nat → Nat → Int32) (a b : Nat) (y : Nat → Nat → Int32) (m : Nat) : Prop := ∀ j T, m ≤ j → j ≤ a → T < 64 → y 21 (j * 64 + T) = nI (bsN (fB E I) (rI I) a b (a - j) T)
theorem best8 {V0 V : Nat → Int32} {y : Nat → Nat → Int32} {m n : Nat} (h : RGE I a b) (b1 : V0 32 = nI b) (a3 : a ≤ 6) (b3 : b ≤ 6) (hn : m + (n + 1) = a) (h22 : ∀ c, c < b → y 22 (m * 6 + c) = gI E I m c) (h21 : TB E I a b y (m + 1)) (k6 : KD7) : ∃ y' : Nat → Nat → Int32, ((∀ q, q ≠ 21 → y' q = y q) ∧ TB E I a b y' m) ∧ gsX_X0_reckonBest_1_L8 NF V0 (nI m) k6 (4294967296 + NF) 0 V y = k6 (nI m + (-1)) V y' := by
  refine lpQ (S := Nat → Nat → Int32) (fun fu i s => gsX_X0_reckonBest_1_L8 NF V0 (nI m) k6 fu i V s) (fun r => ∃ y' : Nat → Nat → Int32, ((∀ q, q ≠ 21 → y' q = y q) ∧ TB E I a b y' m) ∧ r = k6 (nI m + (-1)) V y') (fun T s => (∀ q, q ≠ 21 → s q = y q) ∧ TB E I a b s (m + 1) ∧ ∀ T', T' < T → s 21 (m * 64 + T') = nI (bsN (fB E I) (rI I) a b (n + 1) T')) 64 ?_ ?_ 64 0 (4294967296 + NF) y (by omega) (by omega) ⟨fun _ _ => rfl, h21, fun k hk => absurd hk (Nat.not_lt_zero _)⟩
  · rintro fu T s hT ⟨h1, h2, h3⟩
    have nle : ¬ (64 : Int32) ≤ nI T := lit_nle (b := 64) rfl hT (by decide)
    have e9 : nI (m + 1) * 64 = nI ((m + 1) * 64) := nI_mulI (m + 1) 64
    have e10 : nI ((m + 1) * 64) + nI T = nI ((m + 1) * 64 + T) := nI_add _ _
    have e11 : (nI ((m + 1) * 64 + T)).toNatClampNeg = (m + 1) * 64 + T := nI_clamp (by omega)
    have en : a - (m + 1) = n := by omega
    have r1 : ∀ T', T' < 64 → s 21 ((m + 1) * 64 + T') = nI (bsN (fB E I) (rI I) a b n T') := fun T' hT' => by
      rw [h2 (m + 1) T' (Nat.le_refl _) (by omega) hT', en]
    have q := best21 (NF := NF) (V := V) h b1 a3 b3 hn hT (y := s) (fun c hc => by rw [h1 22 (by decide)]; exact h22 c hc) r1 (fun z0 z1 z2 => gsX_X0_reckonBest_1_L8 NF V0 (nI m) k6 fu z0 z1 z2)
    refine Or.inl ⟨upd2 s 21 (upd (s 21) (m * 64 + T) (nI (bsN (fB E I) (rI I) a b (n + 1) T))), ⟨fun q hq => (u2n hq).trans (h1 q hq), fun j T' j1 j2 j3 => ?_, fun T' hT' => ?_⟩, ?_⟩
    · rw [u2_e, ud_n (by omega)]; exact h2 j T' j1 j2 j3
    · rw [u2_e]
      by_cases e : T' = T
      · rw [e, ud_e]
      · rw [ud_n (by omega)]; exact h3 T' (by omega)
    · show gsX_X0_reckonBest_1_L8 NF V0 (nI m) k6 (fu + 1) (nI T) V s = gsX_X0_reckonBest_1_L8 NF V0 (nI m) k6 fu (nI (T + 1)) V (upd2 s 21 (upd (s 21) (m * 64 + T) (nI (bsN (fB E I) (rI I) a b (n + 1) T))))
      conv => lhs; unfold gsX_X0_reckonBest_1_L8
      simp only [if_neg nle, nI_1, e9, e10, e11, r1 T hT]
      exact q
  · rintro fu s ⟨h1, h2, h3⟩
    refine ⟨s, ⟨h1, fun j T j1 j2 j3 => ?_⟩, ?_⟩
    · by_cases e : j = m
      · rw [e, show a - m = n + 1 by omega]; exact h3 T j3
      · exact h2 j T (by omega) j2 j3
    · show gsX_X0_reckonBest_1_L8 NF V0 (nI m) k6 (fu + 1) (nI 64) V s = _
      conv => lhs; unfold gsX_X0_reckonBest_1_L8
      simp only [if_pos (lit_le (L := 64) (b := 64) rfl (Nat.le_refl _) (by decide))]
theorem best6 {V0 V : Nat → Int32} (h : RGE I a b) (b1 : V0 32 = nI b) (a3 : a ≤ 6) (b3 : b ≤ 6) : ∀ d fu (y : Nat → Nat → Int32), d ≤ a → d < fu → (∀ m c, m < a → c < b → y 22 (m * 6 + c) = gI E I m c) → TB E I a b y d → ∃ y' : Nat → Nat → Int32, (∀ q, q ≠ 21 → y' q = y q) ∧ TB E I a b y' 0 ∧ gsX_X0_reckonBest_1_L6 NF V0 fu (nI d - 1) V y = (V, y') := by
  intro d
  induction d with
  | zero =>
    intro fu y hd hf h22 h21
    obtain ⟨fu, rfl⟩ : ∃ z, fu = z + 1 := ⟨fu - 1, by omega⟩
    refine ⟨y, fun _ _ => rfl, h21, ?_⟩
    conv => lhs; unfold gsX_X0_reckonBest_1_L6
    rw [if_pos (show nI 0 - 1 < (0 : Int32) by decide)]
  | succ d ih =>
    intro fu y hd hf h22 h21
    obtain ⟨fu, rfl⟩ : ∃ z, fu = z + 1 := ⟨fu - 1, by omega⟩
    have e1 : nI (d + 1) - 1 = nI d := nI_subI (a := d + 1) (b := 1) (by omega)
    have em : nI d + (-1) = nI d - 1 := (Int32.sub_eq_add_neg _ _).symm
    obtain ⟨y1, ⟨k1, k2⟩, k3⟩ := best8 (NF := NF) (V0 := V0) (V := V) (n := a - (d + 1)) h b1 a3 b3 (m := d) (by omega) (fun c hc => h22 d c (by omega) hc) h21 (fun z0 z1 z2 => gsX_X0_reckonBest_1_L6 NF V0 fu z0 z1 z2)
    obtain ⟨y2, l1, l2, l3⟩ := ih fu y1 (by omega) (by omega) (fun m c hm hc => by rw [k1 22 (by decide)]; exact h22 m c hm hc) k2
    refine ⟨y2, fun q hq => (l1 q hq).trans (k1 q hq), l2, ?_⟩
    rw [e1]
    conv => lhs; unfold gsX_X0_reckonBest_1_L6
    simp only [if_neg (nI_pos (show d < 2 ^ 31 by omega))]
    refine Eq.trans k3 ?_
    show gsX_X0_reckonBest_1_L6 NF V0 fu (nI d + (-1)) V y1 = _
    rw [em]
    exact l3
theorem bestX {V : Nat → Int32} {y : Nat → Nat → Int32} (h : RGE I a b) (a1 : V 31 = nI a) (b1 : V 32 = nI b) (a3 : a ≤ 6) (b3 : b ≤ 6) (h22 : ∀ m c, m < a → c < b → y 22 (m * 6 + c) = gI E I m c) : ∃ y' : Nat → Nat → Int32, (∀ q, q ≠ 21 → y' q = y q) ∧ TB E I a b y' 0 ∧ gsX_X0_reckonBest_1 NF V y = (V, y') := by
  obtain ⟨y1, k1, k2, k3⟩ := fillD (NF := NF) (V := V) (y := y)
  have t0 : TB E I a b y1 a := fun j T j1 j2 j3 => by
    rw [k2 (j * 64 + T) (by omega), show a - j = 0 by omega]; rfl
  obtain ⟨y2, l1, l2, l3⟩ := best6 (NF := NF) (V0 := V) (V := V) h b1 a3 b3 a (4294967296 + NF) y1 (Nat.le_refl _) (by omega) (fun m c hm hc => by rw [k1 22 (by decide)]; exact h22 m c hm hc) t0
  refine ⟨y2, fun q hq => (l1 q hq).trans (k1 q hq), l2, ?_⟩
  simp only [gsX_X0_reckonBest_1, k3, a1]
  exact l3
theorem fstX {V : Nat → Int32} {y : Nat → Nat → Int32} {m n T : Nat} (h : RGE I a b) (b1 : V 32 = nI b) (a3 : a ≤ 6) (b3 : b ≤ 6) (hn : m + (n + 1) = a) (hT : T < 64) (h22 : ∀ c, c < b → y 22 (m * 6 + c) = gI E I m c) (tb : TB E I a b y 0) : ∃ c, c ≤ b ∧ gsX_X0_firstBest_1 NF (nI m) (nI T) V y = (if c = b then -1 else nI c) ∧ ((c < b ∧ fB E I m c = true ∧ T.testBit c = false ∧ 10000 - rI I m c + bsN (fB E I) (rI I) a b n (T ||| 2 ^ c) = bsN (fB E I) (rI I) a b (n + 1) T) ∨ (c = b ∧ bsN (fB E I) (rI I) a b (n + 1) T = bsN (fB E I) (rI I) a b n T)) := by
  have bl : ∀ T', bsN (fB E I) (rI I) a b n T' ≤ 60000 := fun T' => by have := bs_le (ft := fB E I) (R := rI I) (a := a) (b := b) n T'; omega
  have bl1 : bsN (fB E I) (rI I) a b (n + 1) T ≤ 60000 := by have := bs_le (ft := fB E I) (R := rI I) (a := a) (b := b) (n + 1) T; omega
  have r1 : ∀ T', T' < 64 → y 21 ((m + 1) * 64 + T') = nI (bsN (fB E I) (rI I) a b n T') := fun T' hT' => by
    rw [tb (m + 1) T' (Nat.zero_le _) (by omega) hT', show a - (m + 1) = n by omega]
  have r0 : y 21 (m * 64 + T) = nI (bsN (fB E I) (rI I) a b (n + 1) T) := by
    rw [tb m T (Nat.zero_le _) (by omega) hT, show a - m = n + 1 by omega]
  have e6 : nI m * 64 = nI (m * 64) := nI_mulI m 64
  have e7 : nI (m * 64) + nI T = nI (m * 64 + T) := nI_add _ _
  have e8 : (nI (m * 64 + T)).toNatClampNeg = m * 64 + T := nI_clamp (by omega)
  refine lpQ (S := Unit) (fun fu i _ => gsX_X0_firstBest_1_L1 NF (nI m) (nI T) V y fu i) (fun r => ∃ c, c ≤ b ∧ r = (if c = b then -1 else nI c) ∧ ((c < b ∧ fB E I m c = true ∧ T.testBit c = false ∧ 10000 - rI I m c + bsN (fB E I) (rI I) a b n (T ||| 2 ^ c) = bsN (fB E I) (rI I) a b (n + 1) T) ∨ (c = b ∧ bsN (fB E I) (rI I) a b (n + 1) T = bsN (fB E I) (rI I) a b n T))) (fun j _ => ∀ c, c < j → ¬ (fB E I m c = true ∧ T.testBit c = false ∧ 10000 - rI I m c + bsN (fB E I) (rI I) a b n (T ||| 2 ^ c) = bsN (fB E I) (rI I) a b (n + 1) T)) b ?_ ?_ b 0 (4294967296 + NF) () (by omega) (by omega) (fun c hc => absurd hc (Nat.not_lt_zero _))
  · intro fu c _ hc hs
    have nle : ¬ nI b ≤ nI c := nI_ge hc (by omega)
    have go : ¬ (fB E I m c = true ∧ T.testBit c = false ∧ 10000 - rI I m c + bsN (fB E I) (rI I) a b n (T ||| 2 ^ c) = bsN (fB E I) (rI I) a b (n + 1) T) → ∀ c', c' < c + 1 → ¬ (fB E I m c' = true ∧ T.testBit c' = false ∧ 10000 - rI I m c' + bsN (fB E I) (rI I) a b n (T ||| 2 ^ c') = bsN (fB E I) (rI I) a b (n + 1) T) := fun z c' hc' => by
      by_cases e : c' = c
      · rw [e]; exact z
      · exact hs c' (by omega)
    rcases wrX (NF := NF) (V := V) h a3 b3 (show m < a by omega) hc hT (h22 c hc) r1 with ⟨q1, q2, _, q4⟩ | ⟨q1, _, q4⟩
    · have := bl (T ||| 2 ^ c)
      by_cases z : 10000 - rI I m c + bsN (fB E I) (rI I) a b n (T ||| 2 ^ c) = bsN (fB E I) (rI I) a b (n + 1) T
      · refine Or.inr ⟨c, by omega, ?_, Or.inl ⟨hc, q1, q2, z⟩⟩
        show gsX_X0_firstBest_1_L1 NF (nI m) (nI T) V y (fu + 1) (nI c) = _
        rw [if_neg (show ¬ c = b by omega)]
        conv => lhs; unfold gsX_X0_firstBest_1_L1
        simp only [b1, if_neg nle, q4, e6, e7, e8, r0, z, if_true]
      · refine Or.inl ⟨(), go (fun w => z w.2.2), ?_⟩
        have ne : ¬ nI (10000 - rI I m c + bsN (fB E I) (rI I) a b n (T ||| 2 ^ c)) = nI (bsN (fB E I) (rI I) a b (n + 1) T) := fun w => z ((nI_eq (by omega) (by omega)).mp w)
        show gsX_X0_firstBest_1_L1 NF (nI m) (nI T) V y (fu + 1) (nI c) = gsX_X0_firstBest_1_L1 NF (nI m) (nI T) V y fu (nI (c + 1))
        conv => lhs; unfold gsX_X0_firstBest_1_L1
        simp only [b1, if_neg nle, q4, e6, e7, e8, r0, if_neg ne, nI_1]
    · refine Or.inl ⟨(), go (fun w => q1 ⟨w.1, w.2.1⟩), ?_⟩
      have ne : ¬ (-1 : Int32) = nI (bsN (fB E I) (rI I) a b (n + 1) T) := fun w => nI_nm1 (show bsN (fB E I) (rI I) a b (n + 1) T < 2 ^ 31 by omega) w.symm
      show gsX_X0_firstBest_1_L1 NF (nI m) (nI T) V y (fu + 1) (nI c) = gsX_X0_firstBest_1_L1 NF (nI m) (nI T) V y fu (nI (c + 1))
      conv => lhs; unfold gsX_X0_firstBest_1_L1
      simp only [b1, if_neg nle, q4, e6, e7, e8, r0, if_neg ne, nI_1]
  · intro fu _ hs
    refine ⟨b, Nat.le_refl b, ?_, Or.inr ⟨rfl, ?_⟩⟩
    · show gsX_X0_firstBest_1_L1 NF (nI m) (nI T) V y (fu + 1) (nI b) = _
      rw [if_pos rfl]
      conv => lhs; unfold gsX_X0_firstBest_1_L1
      simp only [b1]
      rw [if_pos (nI_le (Nat.le_refl b) (show b < 2 ^ 31 by omega))]
    · rw [bs_s hn]
      rw [bs_s hn] at hs
      have g0 := mxN_ge0 (h := wgD (fB E I) (rI I) (bsN (fB E I) (rI I) a b n) m T) (s := bsN (fB E I) (rI I) a b n T) b
      rcases mxN_at (h := wgD (fB E I) (rI I) (bsN (fB E I) (rI I) a b n) m T) (s := bsN (fB E I) (rI I) a b n T) b with q | ⟨c, hc, q⟩
      · exact q
      · by_cases z : fB E I m c = true ∧ T.testBit c = false
        · have wv : wgD (fB E I) (rI I) (bsN (fB E I) (rI I) a b n) m T c = 10000 - rI I m c + bsN (fB E I) (rI I) a b n (T ||| 2 ^ c) := if_pos z
          exact (hs c hc ⟨z.1, z.2, by rw [q, wv]⟩).elim
        · have wv : wgD (fB E I) (rI I) (bsN (fB E I) (rI I) a b n) m T c = 0 := if_neg z
          rw [wv] at q
          rw [q] at g0 ⊢
          omega
end
theorem layD {V : Nat → Int32} {y : Nat → Nat → Int32} {p : Int32} : ∃ (V' : Nat → Int32) (y' : Nat → Nat → Int32), (∀ k, k ≠ 38 → V' k = V k) ∧ (∀ q, q ≠ 20 → y' q = y q) ∧ gsX_X0_lay_1 NF p V y = (V', y') := by
  by_cases z : 6 ≤ V 38
  · refine ⟨V, y, fun _ _ => rfl, fun _ _ => rfl, ?_⟩
    simp only [gsX_X0_lay_1, if_pos z]
  · refine ⟨upd V 38 (V 38 + 1), upd2 y 20 (upd (y 20) (V 38).toNatClampNeg p), fun k hk => ud_n hk, fun q hq => u2n hq, ?_⟩
    simp only [gsX_X0_lay_1, if_neg z]
theorem GS.rgD (G : GS v f v1 f1 a b) (w1 : Int64) (g : Nat → Int64) : RGE (RI NF v1 f1 w1 g) a b := fun m c hm hc => by
  obtain ⟨d, hd, ed⟩ := NBx.of (n := 999) rfl (by decide) (G.rge (NF := NF) w1 g hm hc)
  show nv ((RI NF v1 f1 w1 g) m c) ≤ 999 ∧ (RI NF v1 f1 w1 g) m c = nI (nv ((RI NF v1 f1 w1 g) m c))
  rw [ed, nv_nI (show d < 2 ^ 31 by omega)]
  exact ⟨hd, rfl⟩
def DRP (E : Int32) (I : Nat → Nat → Int32) (a b m T : Nat) (dg : Nat → Nat) : Prop := T < 64 ∧ (∀ i, i < m → dg i ≤ b) ∧ (∀ i, i < m → dg i < b → fB E I i (dg i) = true ∧ T.testBit (dg i) = true) ∧ (∀ i j, i < j → j < m → dg i < b → dg i ≠ dg j) ∧ 10000 * cD b dg m + bsN (fB E I) (rI I) a b (a - m) T = bsN (fB E I) (rI I) a b a 0 + iD (rI I) b dg m
def stD (dg : Nat → Nat) (m c : Nat) : Nat → Nat := fun i => if i = m then c else dg i
theorem stD_e {dg : Nat → Nat} {m c : Nat} : stD dg m c m = c := if_pos rfl
theorem stD_n {dg : Nat → Nat} {m c i : Nat} (h : i < m) : stD dg m c i = dg i := if_neg (by omega)
theorem DRP.none {E : Int32} {I : Nat → Nat → Int32} {m n T : Nat} {dg : Nat → Nat} (h : DRP E I a b m T dg) (hn : m + (n + 1) = a) (hb : bsN (fB E I) (rI I) a b (n + 1) T = bsN (fB E I) (rI I) a b n T) : DRP E I a b (m + 1) T (stD dg m b) ∧ cD b (stD dg m b) (m + 1) = cD b dg m ∧ iD (rI I) b (stD dg m b) (m + 1) = iD (rI I) b dg m := by
  obtain ⟨h1, h2, h3, h4, h5⟩ := h
  have nb : ¬ stD dg m b m < b := by rw [stD_e]; omega
  have c1 : cD b (stD dg m b) (m + 1) = cD b dg m := (cD_0 nb).trans (cD_cg m (fun i hi => stD_n hi))
  have i1 : iD (rI I) b (stD dg m b) (m + 1) = iD (rI I) b dg m := (iD_0 nb).trans (iD_cg m (fun i hi => stD_n hi))
  refine ⟨⟨h1, fun i hi => ?_, fun i hi hb' => ?_, fun i j hij hj hb' => ?_, ?_⟩, c1, i1⟩
  · by_cases e : i = m
    · rw [e, stD_e]; exact Nat.le_refl b
    · rw [stD_n (by omega)]; exact h2 i (by omega)
  · by_cases e : i = m
    · rw [e] at hb'; exact absurd hb' nb
    · rw [stD_n (by omega)] at hb' ⊢; exact h3 i (by omega) hb'
  · rw [stD_n (show i < m by omega)] at hb' ⊢
    by_cases e : j = m
    · rw [e, stD_e]; omega
    · rw [stD_n (by omega)]; exact h4 i j hij (by omega) hb'
  · rw [c1, i1, show a - (m + 1) = n by omega, ← hb]
    rw [show a - m = n + 1 by omega] at h5
    exact h5
theorem DRP.some {E : Int32} {I : Nat → Nat → Int32} {m n T c : Nat} {dg : Nat → Nat} (hR : RGE I a b) (b3 : b ≤ 6) (h : DRP E I a b m T dg) (hn : m + (n + 1) = a) (hc : c < b) (hf : fB E I m c = true) (ht : T.testBit c = false) (hb : 10000 - rI I m c + bsN (fB E I) (rI I) a b n (T ||| 2 ^ c) = bsN (fB E I) (rI I) a b (n + 1) T) : DRP E I a b (m + 1) (T ||| 2 ^ c) (stD dg m c) ∧ cD b (stD dg m c) (m + 1) = cD b dg m + 1 ∧ iD (rI I) b (stD dg m c) (m + 1) = iD (rI I) b dg m + rI I m c := by
  obtain ⟨h1, h2, h3, h4, h5⟩ := h
  have nb : stD dg m c m < b := by rw [stD_e]; exact hc
  have c1 : cD b (stD dg m c) (m + 1) = cD b dg m + 1 := (cD_1 nb).trans (by rw [cD_cg (b := b) m (fun i hi => stD_n (dg := dg) (c := c) hi)])
  have i1 : iD (rI I) b (stD dg m c) (m + 1) = iD (rI I) b dg m + rI I m c := (iD_1 nb).trans (by rw [iD_cg (R := rI I) (b := b) m (fun i hi => stD_n (dg := dg) (c := c) hi), stD_e])
  have r := (hR m c (by omega) hc).1
  refine ⟨⟨(bitD T h1 c (by omega)).2.2, fun i hi => ?_, fun i hi hb' => ?_, fun i j hij hj hb' => ?_, ?_⟩, c1, i1⟩
  · by_cases e : i = m
    · rw [e, stD_e]; omega
    · rw [stD_n (by omega)]; exact h2 i (by omega)
  · by_cases e : i = m
    · rw [e, stD_e, Nat.testBit_or, Nat.testBit_two_pow, decide_eq_true (show c = c from rfl), Bool.or_true]
      exact ⟨hf, rfl⟩
    · rw [stD_n (show i < m by omega)] at hb' ⊢
      obtain ⟨q1, q2⟩ := h3 i (by omega) hb'
      rw [Nat.testBit_or, q2, Bool.true_or]
      exact ⟨q1, rfl⟩
  · rw [stD_n (show i < m by omega)] at hb' ⊢
    by_cases e : j = m
    · rw [e, stD_e]
      intro w
      have q := (h3 i (by omega) hb').2
      rw [w, ht] at q
      exact absurd q (by decide)
    · rw [stD_n (by omega)]; exact h4 i j hij (by omega) hb'
  · rw [c1, i1, show a - (m + 1) = n by omega]
    rw [show a - m = n + 1 by omega] at h5
    omega
theorem GS.dressX (G : GS v f v1 f1 a b) (w1 : Int64) (g : Nat → Int64) : ∃ (V' : Nat → Int32) (y' : Nat → Nat → Int32) (T : Nat) (dg : Nat → Nat), DRP (v 33) (RI NF v1 f1 w1 g) a b a T dg ∧ V' 39 = nI (cD b dg a) ∧ V' 40 = nI (iD (rI (RI NF v1 f1 w1 g)) b dg a) ∧ gsX_X0_layDressing_1 NF v f = (V', y') := by
  have hG := G
  obtain ⟨a1, a2, a3, b1, b3, _, _, _, _⟩ := hG
  have hR := G.rgD (NF := NF) w1 g
  obtain ⟨y1, i1, i2, i3⟩ := G.gainX (NF := NF) w1 g
  obtain ⟨y2, j1, j2, j3⟩ := bestX (NF := NF) (V := v) hR a1 b1 a3 b3 i2
  have fr2 : FDX f y2 := fun q z1 z2 z3 => (j1 q (by omega)).trans (i1 q z1 z2 z3)
  have h22 : ∀ m c, m < a → c < b → y2 22 (m * 6 + c) = gI (v 33) (RI NF v1 f1 w1 g) m c := fun m c hm hc => by rw [j1 22 (by decide)]; exact i2 m c hm hc
  simp only [gsX_X0_layDressing_1, i3, j3, gsX_X0_clear_1]
  refine lpQ (S := Int32 × (Nat → Int32) × (Nat → Nat → Int32)) (fun fu i s => gsX_X0_layDressing_1_L10 NF v fu s.1 i s.2.1 s.2.2) (fun r => ∃ (V' : Nat → Int32) (y' : Nat → Nat → Int32) (T : Nat) (dg : Nat → Nat), DRP (v 33) (RI NF v1 f1 w1 g) a b a T dg ∧ V' 39 = nI (cD b dg a) ∧ V' 40 = nI (iD (rI (RI NF v1 f1 w1 g)) b dg a) ∧ r = (V', y')) (fun m s => (∀ k, k < 38 → s.2.1 k = v k) ∧ FDX f s.2.2 ∧ (s.2.2 21 = y2 21 ∧ s.2.2 22 = y2 22) ∧ ∃ (T : Nat) (dg : Nat → Nat), s.1 = nI T ∧ DRP (v 33) (RI NF v1 f1 w1 g) a b m T dg ∧ s.2.1 39 = nI (cD b dg m) ∧ s.2.1 40 = nI (iD (rI (RI NF v1 f1 w1 g)) b dg m)) a ?_ ?_ a 0 (4294967296 + NF) (0, upd (upd (upd v 38 0) 39 0) 40 0, y2) (by omega) (by omega) ⟨fun k hk => ?_, fr2, ⟨rfl, rfl⟩, 0, fun _ => 0, rfl, ⟨by decide, fun i hi => absurd hi (Nat.not_lt_zero _), fun i hi => absurd hi (Nat.not_lt_zero _), fun i j _ hj => absurd hj (Nat.not_lt_zero _), ?_⟩, ?_, ?_⟩
  · rintro fu m ⟨l, V, y⟩ hm ⟨z1, z2, ⟨z3, z4⟩, T, dg, z5, h6, z7, z8⟩
    have h5 : l = nI T := z5
    clear z5
    subst h5
    have h1 : ∀ k, k < 38 → V k = v k := z1
    have h2 : FDX f y := z2
    have h3 : y 21 = y2 21 := z3
    have h4 : y 22 = y2 22 := z4
    have h7 : V 39 = nI (cD b dg m) := z7
    have h8 : V 40 = nI (iD (rI (RI NF v1 f1 w1 g)) b dg m) := z8
    clear z1 z2 z3 z4 z7 z8
    have nle : ¬ nI a ≤ nI m := nI_ge hm (by omega)
    have hn : m + ((a - (m + 1)) + 1) = a := by omega
    have b1' : V 32 = nI b := (h1 32 (by decide)).trans b1
    have tb : TB (v 33) (RI NF v1 f1 w1 g) a b y 0 := fun j T' q1 q2 q3 => by rw [h3]; exact j2 j T' q1 q2 q3
    obtain ⟨c, c1, c2, c3⟩ := fstX (NF := NF) (V := V) hR b1' a3 b3 hn h6.1 (y := y) (fun c hc => by rw [h4]; exact h22 m c hm hc) tb
    obtain ⟨V2, y3, k1, k2, k3⟩ := layD (NF := NF) (V := V) (y := y) (p := if c = b then -1 else nI c)
    rcases c3 with ⟨hc, q1, q2, q3⟩ | ⟨hc, q3⟩
    · have nc : ¬ c = b := by omega
      rw [if_neg nc] at c2 k3
      obtain ⟨d1, d2, d3⟩ := h6.some hR b3 hn hc q1 q2 q3
      have V2a : ∀ k, k < 38 → upd V2 39 (V2 39 + 1) k = v k := fun k hk => (ud_n (by omega)).trans ((k1 k (by omega)).trans (h1 k hk))
      have y3a : FDX f y3 := fun q z1 z2 z3 => (k2 q (by omega)).trans (h2 q z1 z2 z3)
      obtain ⟨y4, m1, m2⟩ := G.illV (NF := NF) w1 g (V := upd V2 39 (V2 39 + 1)) (y := y3) V2a y3a hm hc
      have o1 := (bitD T h6.1 c (by omega)).2.1
      have cn : ¬ nI c = -1 := nI_nm1 (by omega)
      have er := (hR m c hm hc).2
      have f39 : V2 39 + 1 = nI (cD b (stD dg m c) (m + 1)) := by rw [k1 39 (by decide), h7, d2]; exact nI_1 _
      have f40 : V2 40 + (RI NF v1 f1 w1 g) m c = nI (iD (rI (RI NF v1 f1 w1 g)) b (stD dg m c) (m + 1)) := by rw [k1 40 (by decide), h8, d3, ← nI_add, ← er]
      refine Or.inl ⟨(nI (T ||| 2 ^ c), upd (upd V2 39 (V2 39 + 1)) 40 (V2 40 + (RI NF v1 f1 w1 g) m c), y4), ⟨fun k hk => (ud_n (by omega)).trans (V2a k hk), fun q z1 z2 z3 => (m1 q z2 z3).trans (y3a q z1 z2 z3), ⟨(m1 21 (by decide) (by decide)).trans ((k2 21 (by decide)).trans h3), (m1 22 (by decide) (by decide)).trans ((k2 22 (by decide)).trans h4)⟩, T ||| 2 ^ c, stD dg m c, rfl, d1, ?_, ?_⟩, ?_⟩
      · show upd (upd V2 39 (V2 39 + 1)) 40 (V2 40 + (RI NF v1 f1 w1 g) m c) 39 = _
        rw [ud_n (by decide), ud_e]; exact f39
      · show upd (upd V2 39 (V2 39 + 1)) 40 (V2 40 + (RI NF v1 f1 w1 g) m c) 40 = _
        rw [ud_e]; exact f40
      · show gsX_X0_layDressing_1_L10 NF v (fu + 1) (nI T) (nI m) V y = gsX_X0_layDressing_1_L10 NF v fu (nI (T ||| 2 ^ c)) (nI (m + 1)) (upd (upd V2 39 (V2 39 + 1)) 40 (V2 40 + (RI NF v1 f1 w1 g) m c)) y4
        conv => lhs; unfold gsX_X0_layDressing_1_L10
        simp only [a1, if_neg nle, c2, k3, if_neg cn, o1, m2, nI_1]
    · rw [if_pos hc] at c2 k3
      obtain ⟨d1, d2, d3⟩ := h6.none hn q3
      refine Or.inl ⟨(nI T, V2, y3), ⟨fun k hk => (k1 k (by omega)).trans (h1 k hk), fun q z1 z2 z3 => (k2 q (by omega)).trans (h2 q z1 z2 z3), ⟨(k2 21 (by decide)).trans h3, (k2 22 (by decide)).trans h4⟩, T, stD dg m b, rfl, d1, ?_, ?_⟩, ?_⟩
      · show V2 39 = _
        rw [k1 39 (by decide), h7, d2]
      · show V2 40 = _
        rw [k1 40 (by decide), h8, d3]
      · show gsX_X0_layDressing_1_L10 NF v (fu + 1) (nI T) (nI m) V y = gsX_X0_layDressing_1_L10 NF v fu (nI T) (nI (m + 1)) V2 y3
        conv => lhs; unfold gsX_X0_layDressing_1_L10
        simp only [a1, if_neg nle, c2, k3, if_true, nI_1]
  · rintro fu ⟨l, V, y⟩ ⟨h1, h2, h3, T, dg, h5, h6, h7, h8⟩
    refine ⟨V, y, T, dg, h6, h7, h8, ?_⟩
    show gsX_X0_layDressing_1_L10 NF v (fu + 1) l (nI a) V y = _
    conv => lhs; unfold gsX_X0_layDressing_1_L10
    simp only [a1, if_pos (nI_le (Nat.le_refl a) (show a < 2 ^ 31 by omega))]
  · show upd (upd (upd v 38 0) 39 0) 40 0 k = v k
    rw [ud_n (by omega), ud_n (by omega), ud_n (by omega)]
  · show 10000 * 0 + bsN (fB (v 33) (RI NF v1 f1 w1 g)) (rI (RI NF v1 f1 w1 g)) a b (a - 0) 0 = bsN (fB (v 33) (RI NF v1 f1 w1 g)) (rI (RI NF v1 f1 w1 g)) a b a 0 + 0
    rw [Nat.sub_zero]; omega
  · rfl
  · rfl
end
end
section
section
variable {NF : Nat} {v : Nat → Int32} {f : Nat → Nat → Int32} {v1 : Nat → Int32} {f1 : Nat → Nat → Int32} {w1 : Int64} {g : Nat → Int64} {a b : Nat} {r r' : Int32} {u : (Nat → Int32) × (Nat → Nat → Int32)} {u' : (Nat → Int32) × (Nat → Nat → Int32) × Int64 × (Nat → Int64)}
section
variable {E : Int32} {I : Nat → Nat → Int32} {dg : Nat → Nat}
def dI (b x : Nat) : Int32 := if x = b then -1 else nI x
def OD (E : Int32) (I : Nat → Nat → Int32) (b d H : Nat) (dg : Nat → Nat) : Prop := ∀ m, m < d → dg m < b → fB E I m (dg m) = true ∧ H.testBit (dg m) = false ∧ ∀ j, j < m → dg j ≠ dg m
theorem OD.s0 {d H : Nat} (h : ¬ dg d < b) : OD E I b (d + 1) H dg ↔ OD E I b d H dg := by
  constructor
  · intro q m hm
    exact q m (by omega)
  · intro q m hm hb
    by_cases e : m = d
    · rw [e] at hb; exact absurd hb h
    · exact q m (by omega) hb
theorem OD.s1 {d H : Nat} (h : dg d < b) (hf : fB E I d (dg d) = true) (hb : H.testBit (dg d) = false) : OD E I b (d + 1) H dg ↔ OD E I b d (H ||| 2 ^ dg d) dg := by
  constructor
  · intro q m hm hb'
    obtain ⟨q1, q2, q3⟩ := q m (by omega) hb'
    have ne := (q d (by omega) h).2.2 m hm
    refine ⟨q1, ?_, q3⟩
    rw [Nat.testBit_or, q2, Nat.testBit_two_pow, decide_eq_false (fun e => ne e.symm)]
    rfl
  · intro q m hm hb'
    by_cases e : m = d
    · subst e
      refine ⟨hf, hb, fun j hj w => ?_⟩
      have hj' : dg j < b := by rw [w]; exact h
      have z := (q j hj hj').2.1
      rw [Nat.testBit_or, Nat.testBit_two_pow, decide_eq_true w.symm, Bool.or_true] at z
      exact absurd z (by decide)
    · obtain ⟨q1, q2, q3⟩ := q m (by omega) hb'
      rw [Nat.testBit_or] at q2
      exact ⟨q1, (Bool.or_eq_false_iff.mp q2).1, q3⟩
theorem OD.vd {d : Nat} : OD E I b d 0 dg ↔ VD (fB E I) d b dg := by
  constructor
  · intro q
    refine ⟨fun i hi hb => (q i hi hb).1, fun i j hij hj hb e => ?_⟩
    have hb' : dg j < b := by rw [← e]; exact hb
    exact (q j hj hb').2.2 i hij e
  · rintro ⟨q1, q2⟩ m hm hb
    refine ⟨q1 m hm hb, Nat.zero_testBit _, fun j hj e => ?_⟩
    exact q2 j m hj hm (by rw [e]; exact hb) e
theorem ldY {V0 V : Nat → Int32} (h25 : V0 25 = nI b) (b3 : b ≤ 6) (h26 : V 26 = E) : ∀ d fu rest H cnt (F : Nat → Nat → Int32), d ≤ 6 → d < fu → rest < 200000 → H < 64 → cnt + d ≤ 6 → (∀ m, m < d → dg m = rest / (b + 1) ^ (d - 1 - m) % (b + 1)) → (∀ m c, m < d → c < b → F 28 (6 * m + c) = I m c) → ∃ F' : Nat → Nat → Int32, (∀ q, q ≠ 27 → F' q = F q) ∧ (∀ m, d ≤ m → F' 27 m = F 27 m) ∧ ((OD E I b d H dg ∧ (∀ m, m < d → F' 27 m = dI b (dg m)) ∧ gsY_X11_layDress_1_L3 NF V0 fu (nI rest) (nI H) (nI cnt) (nI d - 1) V F w1 g = (nI (cnt + cD b dg d), V, F', w1, g)) ∨ (¬ OD E I b d H dg ∧ gsY_X11_layDress_1_L3 NF V0 fu (nI rest) (nI H) (nI cnt) (nI d - 1) V F w1 g = (-1, V, F', w1, g))) := by
  intro d
  induction d with
  | zero =>
    intro fu rest H cnt F hd hf hr hH hc hdg h28
    obtain ⟨fu, rfl⟩ : ∃ z, fu = z + 1 := ⟨fu - 1, by omega⟩
    refine ⟨F, fun _ _ => rfl, fun _ _ => rfl, Or.inl ⟨fun m hm => absurd hm (Nat.not_lt_zero _), fun m hm => absurd hm (Nat.not_lt_zero _), ?_⟩⟩
    conv => lhs; unfold gsY_X11_layDress_1_L3
    rw [if_pos (show nI 0 - 1 < (0 : Int32) by decide)]
    rfl
  | succ d ih =>
    intro fu rest H cnt F hd hf hr hH hcn hdg h28
    obtain ⟨fu, rfl⟩ : ∃ z, fu = z + 1 := ⟨fu - 1, by omega⟩
    have e1 : nI (d + 1) - 1 = nI d := nI_subI (a := d + 1) (b := 1) (by omega)
    have em : nI d + (-1) = nI d - 1 := (Int32.sub_eq_add_neg _ _).symm
    have cd : (nI d).toNatClampNeg = d := nI_clamp (by omega)
    have rl : rest / (b + 1) ≤ rest := Nat.div_le_self _ _
    have dv : nI rest / nI (b + 1) = nI (rest / (b + 1)) := nI_divI (by omega) (by omega)
    have md : nI rest - nI rest / nI (b + 1) * nI (b + 1) = nI (rest % (b + 1)) := nI_modI (by omega) (by omega)
    rw [dv] at md
    have ed : dg d = rest % (b + 1) := by
      have q := hdg d (by omega)
      rw [show d + 1 - 1 - d = 0 by omega, Nat.pow_zero, Nat.div_one] at q
      exact q
    rw [← ed] at md
    have lb : dg d ≤ b := by
      have := Nat.mod_lt rest (show 0 < b + 1 by omega)
      omega
    have hdg' : ∀ m, m < d → dg m = rest / (b + 1) / (b + 1) ^ (d - 1 - m) % (b + 1) := fun m hm => by
      rw [hdg m (by omega), Nat.div_div_eq_div_mul, show d + 1 - 1 - m = (d - 1 - m) + 1 by omega, Nat.pow_succ, Nat.mul_comm (b + 1)]
    rw [e1]
    by_cases hc : dg d < b
    · have neb : ¬ nI (dg d) = nI b := fun q => by have := (nI_eq (by omega) (by omega)).mp q; omega
      obtain ⟨q1, q2, q3⟩ := bitD H hH (dg d) (by omega)
      have w28 : ∀ x : Nat → Int32, ∀ m c, m < d → c < b → upd2 F 27 x 28 (6 * m + c) = I m c := fun x m c hm hc => by
        rw [u2n (by decide)]; exact h28 m c (by omega) hc
      by_cases t : H.testBit (dg d) = true
      · rw [if_pos t] at q1
        have q1 : (nI H >>> (nI (dg d) &&& 31)) &&& 1 = 1 := q1
        refine ⟨upd2 F 27 (upd (F 27) d (nI (dg d))), fun q z => u2n z, fun m hm => by rw [u2_e, ud_n (by omega)], Or.inr ⟨fun q => ?_, ?_⟩⟩
        · have z := (q d (by omega) hc).2.1
          rw [t] at z
          exact absurd z (by decide)
        · conv => lhs; unfold gsY_X11_layDress_1_L3
          simp only [if_neg (nI_pos (show d < 2 ^ 31 by omega)), h25, nI_1, dv, md, if_neg neb, cd, q1, if_true]
      · rw [if_neg t] at q1
        have q1 : (nI H >>> (nI (dg d) &&& 31)) &&& 1 = 0 := q1
        have t0 := Bool.eq_false_iff.mpr t
        have e6 : (6 : Int32) * nI d = nI (6 * d) := nI_mulI 6 d
        have e7 : nI (6 * d) + nI (dg d) = nI (6 * d + dg d) := nI_add _ _
        have e8 : (nI (6 * d + dg d)).toNatClampNeg = 6 * d + dg d := nI_clamp (by omega)
        have e9 : upd2 F 27 (upd (F 27) d (nI (dg d))) 28 (6 * d + dg d) = I d (dg d) := by rw [u2n (by decide)]; exact h28 d (dg d) (by omega) hc
        have n01 : ¬ (0 : Int32) = 1 := by decide
        by_cases z : E < I d (dg d)
        · have nz : ¬ I d (dg d) ≤ E := fun q => by
            have z1 := (fa_lt _ _).mp z
            have z2 := (fa_le _ _).mp q
            omega
          refine ⟨upd2 F 27 (upd (F 27) d (nI (dg d))), fun q z => u2n z, fun m hm => by rw [u2_e, ud_n (by omega)], Or.inr ⟨fun q => fB_0 z (q d (by omega) hc).1, ?_⟩⟩
          conv => lhs; unfold gsY_X11_layDress_1_L3
          simp only [if_neg (nI_pos (show d < 2 ^ 31 by omega)), h25, nI_1, dv, md, if_neg neb, cd, q1, if_neg n01, e6, e7, e8, e9, h26, if_neg nz]
        · have nz : I d (dg d) ≤ E := by
            apply (fa_le _ _).mpr
            have z1 : ¬ E.toInt < (I d (dg d)).toInt := fun q => z ((fa_lt _ _).mpr q)
            omega
          have s1 := OD.s1 (E := E) (I := I) (H := H) hc (fB_1 z) t0
          obtain ⟨F', i1, i2, i3⟩ := ih fu (rest / (b + 1)) (H ||| 2 ^ dg d) (cnt + 1) (upd2 F 27 (upd (F 27) d (nI (dg d)))) (by omega) (by omega) (by omega) q3 (by omega) hdg' (w28 _)
          have st : gsY_X11_layDress_1_L3 NF V0 (fu + 1) (nI rest) (nI H) (nI cnt) (nI d) V F w1 g = gsY_X11_layDress_1_L3 NF V0 fu (nI (rest / (b + 1))) (nI (H ||| 2 ^ dg d)) (nI (cnt + 1)) (nI d - 1) V (upd2 F 27 (upd (F 27) d (nI (dg d)))) w1 g := by
            conv => lhs; unfold gsY_X11_layDress_1_L3
            simp only [if_neg (nI_pos (show d < 2 ^ 31 by omega)), h25, nI_1, dv, md, if_neg neb, cd, q1, if_neg n01, e6, e7, e8, e9, h26, if_pos nz, q2, em]
          refine ⟨F', fun q z => (i1 q z).trans (u2n z), fun m hm => by rw [i2 m (by omega), u2_e, ud_n (by omega)], ?_⟩
          rw [st]
          rcases i3 with ⟨k1, k2, k3⟩ | ⟨k1, k3⟩
          · refine Or.inl ⟨s1.mpr k1, fun m hm => ?_, ?_⟩
            · by_cases e : m = d
              · rw [e, i2 d (Nat.le_refl _), u2_e, ud_e]
                unfold dI
                rw [if_neg (show ¬ dg d = b by omega)]
              · exact k2 m (by omega)
            · rw [k3, cD_1 hc, show cnt + 1 + cD b dg d = cnt + (cD b dg d + 1) by omega]
          · exact Or.inr ⟨fun q => k1 (s1.mp q), k3⟩
    · have eb : dg d = b := by omega
      rw [eb] at md
      obtain ⟨F', i1, i2, i3⟩ := ih fu (rest / (b + 1)) H cnt (upd2 F 27 (upd (F 27) d (-1))) (by omega) (by omega) (by omega) hH (by omega) hdg' (fun m c hm hc => by rw [u2n (by decide)]; exact h28 m c (by omega) hc)
      have st : gsY_X11_layDress_1_L3 NF V0 (fu + 1) (nI rest) (nI H) (nI cnt) (nI d) V F w1 g = gsY_X11_layDress_1_L3 NF V0 fu (nI (rest / (b + 1))) (nI H) (nI cnt) (nI d - 1) V (upd2 F 27 (upd (F 27) d (-1))) w1 g := by
        conv => lhs; unfold gsY_X11_layDress_1_L3
        simp only [if_neg (nI_pos (show d < 2 ^ 31 by omega)), h25, nI_1, dv, md, if_true, cd, em]
      have s0 := OD.s0 (E := E) (I := I) (H := H) hc
      refine ⟨F', fun q z => (i1 q z).trans (u2n z), fun m hm => by rw [i2 m (by omega), u2_e, ud_n (by omega)], ?_⟩
      rw [st]
      rcases i3 with ⟨k1, k2, k3⟩ | ⟨k1, k3⟩
      · refine Or.inl ⟨s0.mpr k1, fun m hm => ?_, ?_⟩
        · by_cases e : m = d
          · rw [e, i2 d (Nat.le_refl _), u2_e, ud_e]
            unfold dI
            rw [if_pos eb]
          · exact k2 m (by omega)
        · rw [k3, cD_0 hc]
      · exact Or.inr ⟨fun q => k1 (s0.mp q), k3⟩
theorem irY {V : Nat → Int32} {F : Nat → Nat → Int32} (hR : RGE I a b) (h24 : V 24 = nI a) (a3 : a ≤ 6) (b3 : b ≤ 6) (h27 : ∀ m, m < a → F 27 m = dI b (dg m)) (hdg : ∀ m, m < a → dg m ≤ b) (h28 : ∀ m c, m < a → c < b → F 28 (6 * m + c) = I m c) : gsY_X11_illOfRow_1 NF V F w1 g = nI (iD (rI I) b dg a) := by
  refine lpQ (S := Int32) (fun fu i s => gsY_X11_illOfRow_1_L1 NF V F fu s i) (fun r => r = nI (iD (rI I) b dg a)) (fun m s => s = nI (iD (rI I) b dg m)) a ?_ ?_ a 0 (4294967296 + NF) 0 (by omega) (by omega) rfl
  · intro fu m s hm hs
    have hs : s = nI (iD (rI I) b dg m) := hs
    subst hs
    have nle : ¬ nI a ≤ nI m := nI_ge hm (by omega)
    have cm : (nI m).toNatClampNeg = m := nI_clamp (by omega)
    have lb := hdg m hm
    refine Or.inl ⟨nI (iD (rI I) b dg (m + 1)), rfl, ?_⟩
    show gsY_X11_illOfRow_1_L1 NF V F (fu + 1) (nI (iD (rI I) b dg m)) (nI m) = gsY_X11_illOfRow_1_L1 NF V F fu (nI (iD (rI I) b dg (m + 1))) (nI (m + 1))
    by_cases hc : dg m < b
    · have e27 : F 27 m = nI (dg m) := by
        rw [h27 m hm]
        exact if_neg (by omega)
      have e6 : (6 : Int32) * nI m = nI (6 * m) := nI_mulI 6 m
      have e7 : nI (6 * m) + nI (dg m) = nI (6 * m + dg m) := nI_add _ _
      have e8 : (nI (6 * m + dg m)).toNatClampNeg = 6 * m + dg m := nI_clamp (by omega)
      have e9 : F 28 (6 * m + dg m) = nI (rI I m (dg m)) := (h28 m (dg m) hm hc).trans (hR m (dg m) hm hc).2
      have e10 : nI (iD (rI I) b dg m) + nI (rI I m (dg m)) = nI (iD (rI I) b dg m + rI I m (dg m)) := nI_add _ _
      rw [iD_1 hc]
      conv => lhs; unfold gsY_X11_illOfRow_1_L1
      simp only [h24, if_neg nle, cm, e27, if_pos (show (0 : Int32) ≤ nI (dg m) from lit_le (b := 0) rfl (by omega) (by omega)), e6, e7, e8, e9, e10, nI_1]
    · have e27 : F 27 m = -1 := by
        rw [h27 m hm]
        exact if_pos (by omega)
      rw [iD_0 hc]
      conv => lhs; unfold gsY_X11_illOfRow_1_L1
      simp only [h24, if_neg nle, cm, e27, if_neg (show ¬ (0 : Int32) ≤ -1 by decide), nI_add0, nI_1]
  · intro fu s hs
    have hs : s = nI (iD (rI I) b dg a) := hs
    subst hs
    show gsY_X11_illOfRow_1_L1 NF V F (fu + 1) (nI (iD (rI I) b dg a)) (nI a) = _
    conv => lhs; unfold gsY_X11_illOfRow_1_L1
    simp only [h24, if_pos (nI_le (Nat.le_refl a) (show a < 2 ^ 31 by omega))]
theorem pwD (a3 : a ≤ 6) {V : Nat → Int32} {F : Nat → Nat → Int32} {K : Nat} : gsY_X11_power_1 NF (nI K) (nI a) V F w1 g = nI (K ^ a) := by
  refine acc0 (NF := NF) (L := fun fu s i => gsY_X11_power_1_L1 NF (nI K) (nI a) fu s i) (n := a) (fun j => nI (K ^ j)) (by omega) (fun fu j hj => ?_) (fun fu => ?_)
  · have nle : ¬ nI a ≤ nI j := nI_ge hj (by omega)
    show gsY_X11_power_1_L1 NF (nI K) (nI a) (fu + 1) (nI (K ^ j)) (nI j) = gsY_X11_power_1_L1 NF (nI K) (nI a) fu (nI (K ^ (j + 1))) (nI (j + 1))
    conv => lhs; unfold gsY_X11_power_1_L1
    simp only [if_neg nle, nI_mulI, ← Nat.pow_succ, nI_1]
  · show gsY_X11_power_1_L1 NF (nI K) (nI a) (fu + 1) (nI (K ^ a)) (nI a) = _
    conv => lhs; unfold gsY_X11_power_1_L1
    rw [if_pos (nI_le (Nat.le_refl a) (by omega))]
abbrev KD11 : Type := Int32 → Int32 → Int32 → (Nat → Int32) → (Nat → Nat → Int32) → Int64 → (Nat → Int64) → (Int32 × (Nat → Int32) × (Nat → Nat → Int32) × (Int64) × (Nat → Int64))
theorem cpD41 {l4 r22 r39 : Int32} {V : Nat → Int32} {F : Nat → Nat → Int32} (h24 : V 24 = nI a) (a3 : a ≤ 6) (k11 : KD11) : ∃ F' : Nat → Nat → Int32, (∀ q, q ≠ 26 → F' q = F q) ∧ gsY_X11_dress_1_L41 NF V l4 r22 r39 k11 (4294967296 + NF) 0 V F w1 g = k11 r22 r39 (l4 + 1) V F' w1 g := by
  refine lpQ (S := Nat → Nat → Int32) (fun fu i s => gsY_X11_dress_1_L41 NF V l4 r22 r39 k11 fu i V s w1 g) (fun r => ∃ F' : Nat → Nat → Int32, (∀ q, q ≠ 26 → F' q = F q) ∧ r = k11 r22 r39 (l4 + 1) V F' w1 g) (fun _ s => ∀ q, q ≠ 26 → s q = F q) a ?_ ?_ a 0 (4294967296 + NF) F (by omega) (by omega) (fun _ _ => rfl)
  · intro fu j s hj hs
    have nle : ¬ nI a ≤ nI j := nI_ge hj (by omega)
    refine Or.inl ⟨upd2 s 26 (upd (s 26) (nI j).toNatClampNeg (s 27 (nI j).toNatClampNeg)), fun q hq => (u2n hq).trans (hs q hq), ?_⟩
    show gsY_X11_dress_1_L41 NF V l4 r22 r39 k11 (fu + 1) (nI j) V s w1 g = gsY_X11_dress_1_L41 NF V l4 r22 r39 k11 fu (nI (j + 1)) V (upd2 s 26 (upd (s 26) (nI j).toNatClampNeg (s 27 (nI j).toNatClampNeg))) w1 g
    conv => lhs; unfold gsY_X11_dress_1_L41
    simp only [h24, if_neg nle, nI_1]
  · intro fu s hs
    refine ⟨s, hs, ?_⟩
    show gsY_X11_dress_1_L41 NF V l4 r22 r39 k11 (fu + 1) (nI a) V s w1 g = _
    conv => lhs; unfold gsY_X11_dress_1_L41
    simp only [h24, if_pos (nI_le (Nat.le_refl a) (show a < 2 ^ 31 by omega))]
theorem cpD60 {l4 r22 r39 : Int32} {V : Nat → Int32} {F : Nat → Nat → Int32} (h24 : V 24 = nI a) (a3 : a ≤ 6) (k11 : KD11) : ∃ F' : Nat → Nat → Int32, (∀ q, q ≠ 26 → F' q = F q) ∧ gsY_X11_dress_1_L60 NF V l4 r22 r39 k11 (4294967296 + NF) 0 V F w1 g = k11 r22 r39 (l4 + 1) V F' w1 g := by
  refine lpQ (S := Nat → Nat → Int32) (fun fu i s => gsY_X11_dress_1_L60 NF V l4 r22 r39 k11 fu i V s w1 g) (fun r => ∃ F' : Nat → Nat → Int32, (∀ q, q ≠ 26 → F' q = F q) ∧ r = k11 r22 r39 (l4 + 1) V F' w1 g) (fun _ s => ∀ q, q ≠ 26 → s q = F q) a ?_ ?_ a 0 (4294967296 + NF) F (by omega) (by omega) (fun _ _ => rfl)
  · intro fu j s hj hs
    have nle : ¬ nI a ≤ nI j := nI_ge hj (by omega)
    refine Or.inl ⟨upd2 s 26 (upd (s 26) (nI j).toNatClampNeg (s 27 (nI j).toNatClampNeg)), fun q hq => (u2n hq).trans (hs q hq), ?_⟩
    show gsY_X11_dress_1_L60 NF V l4 r22 r39 k11 (fu + 1) (nI j) V s w1 g = gsY_X11_dress_1_L60 NF V l4 r22 r39 k11 fu (nI (j + 1)) V (upd2 s 26 (upd (s 26) (nI j).toNatClampNeg (s 27 (nI j).toNatClampNeg))) w1 g
    conv => lhs; unfold gsY_X11_dress_1_L60
    simp only [h24, if_neg nle, nI_1]
  · intro fu s hs
    refine ⟨s, hs, ?_⟩
    show gsY_X11_dress_1_L60 NF V l4 r22 r39 k11 (fu + 1) (nI a) V s w1 g = _
    conv => lhs; unfold gsY_X11_dress_1_L60
    simp only [h24, if_pos (nI_le (Nat.le_refl a) (show a < 2 ^ 31 by omega))]
def BSD (E : Int32) (I : Nat → Nat → Int32) (a b j : Nat) (l2 l3 : Int32) : Prop := (l2 = -1 ∧ ∀ c, c < j → ¬ VD (fB E I) a b (dgD (b + 1) a c)) ∨ ∃ c, c < j ∧ VD (fB E I) a b (dgD (b + 1) a c) ∧ l2 = nI (cD b (dgD (b + 1) a c) a) ∧ l3 = nI (iD (rI I) b (dgD (b + 1) a c) a) ∧ ∀ c', c' < j → VD (fB E I) a b (dgD (b + 1) a c') → cD b (dgD (b + 1) a c') a < cD b (dgD (b + 1) a c) a ∨ (cD b (dgD (b + 1) a c') a = cD b (dgD (b + 1) a c) a ∧ iD (rI I) b (dgD (b + 1) a c) a ≤ iD (rI I) b (dgD (b + 1) a c') a)
theorem BSD.skip {j : Nat} {l2 l3 : Int32} (h : BSD E I a b j l2 l3) (hn : ¬ VD (fB E I) a b (dgD (b + 1) a j)) : BSD E I a b (j + 1) l2 l3 := by
  rcases h with ⟨h1, h2⟩ | ⟨c, h1, h2, h3, h4, h5⟩
  · refine Or.inl ⟨h1, fun c hc => ?_⟩
    by_cases e : c = j
    · rw [e]; exact hn
    · exact h2 c (by omega)
  · refine Or.inr ⟨c, by omega, h2, h3, h4, fun c' hc' q => ?_⟩
    by_cases e : c' = j
    · rw [e] at q; exact absurd q hn
    · exact h5 c' (by omega) q
theorem BSD.new {j : Nat} {l2 l3 : Int32} (h : BSD E I a b j l2 l3) (hv : VD (fB E I) a b (dgD (b + 1) a j)) (hb : ∀ c, c < j → VD (fB E I) a b (dgD (b + 1) a c) → l2 = nI (cD b (dgD (b + 1) a c) a) → l3 = nI (iD (rI I) b (dgD (b + 1) a c) a) → cD b (dgD (b + 1) a c) a < cD b (dgD (b + 1) a j) a ∨ (cD b (dgD (b + 1) a c) a = cD b (dgD (b + 1) a j) a ∧ iD (rI I) b (dgD (b + 1) a j) a ≤ iD (rI I) b (dgD (b + 1) a c) a)) : BSD E I a b (j + 1) (nI (cD b (dgD (b + 1) a j) a)) (nI (iD (rI I) b (dgD (b + 1) a j) a)) := by
  refine Or.inr ⟨j, by omega, hv, rfl, rfl, fun c' hc' q => ?_⟩
  by_cases e : c' = j
  · rw [e]; exact Or.inr ⟨rfl, Nat.le_refl _⟩
  · rcases h with ⟨_, h2⟩ | ⟨c, h1, h2, h3, h4, h5⟩
    · exact absurd q (h2 c' (by omega))
    · have z1 := h5 c' (by omega) q
      have z2 := hb c h1 h2 h3 h4
      omega
theorem BSD.old {j c : Nat} {l2 l3 : Int32} (h1 : c < j) (h2 : VD (fB E I) a b (dgD (b + 1) a c)) (h3 : l2 = nI (cD b (dgD (b + 1) a c) a)) (h4 : l3 = nI (iD (rI I) b (dgD (b + 1) a c) a)) (h5 : ∀ c', c' < j → VD (fB E I) a b (dgD (b + 1) a c') → cD b (dgD (b + 1) a c') a < cD b (dgD (b + 1) a c) a ∨ (cD b (dgD (b + 1) a c') a = cD b (dgD (b + 1) a c) a ∧ iD (rI I) b (dgD (b + 1) a c) a ≤ iD (rI I) b (dgD (b + 1) a c') a)) (hj : cD b (dgD (b + 1) a j) a < cD b (dgD (b + 1) a c) a ∨ (cD b (dgD (b + 1) a j) a = cD b (dgD (b + 1) a c) a ∧ iD (rI I) b (dgD (b + 1) a c) a ≤ iD (rI I) b (dgD (b + 1) a j) a)) : BSD E I a b (j + 1) l2 l3 := by
  refine Or.inr ⟨c, by omega, h2, h3, h4, fun c' hc' q => ?_⟩
  by_cases e : c' = j
  · rw [e]; exact hj
  · exact h5 c' (by omega) q
theorem dress11 {p1 : Int32} {V : Nat → Int32} {F0 : Nat → Nat → Int32} (hR : RGE I a b) (h24 : V 24 = nI a) (h25 : V 25 = nI b) (h26 : V 26 = E) (a3 : a ≤ 6) (b3 : b ≤ 6) (h28 : ∀ m c, m < a → c < b → F0 28 (6 * m + c) = I m c) : ∃ (V' : Nat → Int32) (F' : Nat → Nat → Int32) (l2 l3 : Int32), BSD E I a b ((b + 1) ^ a) l2 l3 ∧ gsY_X11_dress_1_L11 NF p1 V (4294967296 + NF) (-1) 0 0 V F0 w1 g = ((if p1 = 0 then l2 else l3), V', F', w1, g) := by
  have pl : (b + 1) ^ a ≤ 117649 := Nat.le_trans (Nat.pow_le_pow_left (show b + 1 ≤ 7 by omega) a) (Nat.pow_le_pow_right (n := 7) (by decide) a3)
  have pw : ∀ {V : Nat → Int32} {F : Nat → Nat → Int32}, gsY_X11_power_1 NF (nI (b + 1)) (nI a) V F w1 g = nI ((b + 1) ^ a) := pwD a3
  have cl : ∀ c, cD b (dgD (b + 1) a c) a ≤ 6 := fun c => Nat.le_trans (cD_le a) a3
  have il : ∀ c, iD (rI I) b (dgD (b + 1) a c) a ≤ 5994 := fun c => by
    have := iD_le (dg := dgD (b + 1) a c) (fun m c hm hc => (hR m c hm hc).1) a (Nat.le_refl a)
    omega
  refine lpQ (S := Int32 × Int32 × (Nat → Nat → Int32)) (fun fu i s => gsY_X11_dress_1_L11 NF p1 V fu s.1 s.2.1 i V s.2.2 w1 g) (fun r => ∃ (V' : Nat → Int32) (F' : Nat → Nat → Int32) (l2 l3 : Int32), BSD E I a b ((b + 1) ^ a) l2 l3 ∧ r = ((if p1 = 0 then l2 else l3), V', F', w1, g)) (fun j s => (∀ m c, m < a → c < b → s.2.2 28 (6 * m + c) = I m c) ∧ BSD E I a b j s.1 s.2.1) ((b + 1) ^ a) ?_ ?_ ((b + 1) ^ a) 0 (4294967296 + NF) (-1, 0, F0) (by omega) (by omega) ⟨h28, Or.inl ⟨rfl, fun c hc => absurd hc (Nat.not_lt_zero _)⟩⟩
  · rintro fu j ⟨l2, l3, F⟩ hj ⟨k28, hb⟩
    have k28 : ∀ m c, m < a → c < b → F 28 (6 * m + c) = I m c := k28
    have hb : BSD E I a b j l2 l3 := hb
    have nle : ¬ nI ((b + 1) ^ a) ≤ nI j := nI_ge hj (by omega)
    have C6 := cl j
    have I6 := il j
    obtain ⟨F1, i1, _, i3⟩ := ldY (NF := NF) (V0 := V) (V := V) (E := E) (I := I) (dg := dgD (b + 1) a j) (w1 := w1) (g := g) h25 b3 h26 a (4294967296 + NF) j 0 0 F a3 (by omega) (by omega) (by decide) (by omega) (fun m hm => rfl) k28
    have f28 : ∀ m c, m < a → c < b → F1 28 (6 * m + c) = I m c := fun m c hm hc => by rw [i1 28 (by decide)]; exact k28 m c hm hc
    rcases i3 with ⟨o, o2, o3⟩ | ⟨o, o3⟩
    · have hv := OD.vd.mp o
      rw [Nat.zero_add] at o3
      have ld : gsY_X11_layDress_1 NF (nI j) V F w1 g = (nI (cD b (dgD (b + 1) a j) a), V, F1, w1, g) := by
        simp only [gsY_X11_layDress_1, h24]
        exact o3
      have ir := irY (NF := NF) (V := V) (w1 := w1) (g := g) hR h24 a3 b3 o2 (fun m hm => by
        unfold dgD
        have := Nat.mod_lt (j / (b + 1) ^ (a - 1 - m)) (show 0 < b + 1 by omega)
        omega) f28
      have n0 : ¬ nI (cD b (dgD (b + 1) a j) a) < 0 := nI_nlt0 (by omega)
      rcases hb with ⟨h1, h2⟩ | ⟨c, h1, h2, h3, h4, h5⟩
      · subst h1
        have n1 : ¬ nI (cD b (dgD (b + 1) a j) a) < -1 := nlt1 (by omega)
        have n2 : ¬ nI (cD b (dgD (b + 1) a j) a) = -1 := nI_nm1 (by omega)
        obtain ⟨F2, j1, j2⟩ := cpD41 (NF := NF) (w1 := w1) (g := g) (l4 := nI j) (r22 := nI (cD b (dgD (b + 1) a j) a)) (r39 := nI (iD (rI I) b (dgD (b + 1) a j) a)) (V := V) (F := F1) h24 a3 (fun z0 z1 z2 z3 z4 z5 z6 => gsY_X11_dress_1_L11 NF p1 V fu z0 z1 z2 z3 z4 z5 z6)
        refine Or.inl ⟨(nI (cD b (dgD (b + 1) a j) a), nI (iD (rI I) b (dgD (b + 1) a j) a), F2), ⟨fun m c hm hc => by show F2 28 (6 * m + c) = I m c; rw [j1 28 (by decide)]; exact f28 m c hm hc, BSD.new (Or.inl ⟨rfl, h2⟩ : BSD E I a b j (-1) l3) hv (fun c hc q => absurd q (h2 c hc))⟩, ?_⟩
        show gsY_X11_dress_1_L11 NF p1 V (fu + 1) (-1) l3 (nI j) V F w1 g = gsY_X11_dress_1_L11 NF p1 V fu (nI (cD b (dgD (b + 1) a j) a)) (nI (iD (rI I) b (dgD (b + 1) a j) a)) (nI (j + 1)) V F2 w1 g
        conv => lhs; unfold gsY_X11_dress_1_L11
        simp only [h25, h24, nI_1, pw, if_neg nle, ld, if_neg n0, if_neg n1, if_neg n2, ir]
        rw [nI_1] at j2
        exact j2
      · have C0 := cl c
        have I0 := il c
        by_cases z1 : cD b (dgD (b + 1) a j) a < cD b (dgD (b + 1) a c) a
        · have y1 := nI_lt z1 (show cD b (dgD (b + 1) a c) a < 2 ^ 31 by omega)
          refine Or.inl ⟨(l2, l3, F1), ⟨f28, BSD.old h1 h2 h3 h4 h5 (Or.inl z1)⟩, ?_⟩
          show gsY_X11_dress_1_L11 NF p1 V (fu + 1) l2 l3 (nI j) V F w1 g = gsY_X11_dress_1_L11 NF p1 V fu l2 l3 (nI (j + 1)) V F1 w1 g
          rw [h3]
          conv => lhs; unfold gsY_X11_dress_1_L11
          simp only [h25, h24, nI_1, pw, if_neg nle, ld, if_neg n0, if_pos y1]
        · have y1 := nI_nlt (show cD b (dgD (b + 1) a c) a ≤ cD b (dgD (b + 1) a j) a by omega) (show cD b (dgD (b + 1) a j) a < 2 ^ 31 by omega)
          by_cases z2 : cD b (dgD (b + 1) a j) a = cD b (dgD (b + 1) a c) a
          · by_cases z3 : iD (rI I) b (dgD (b + 1) a j) a < iD (rI I) b (dgD (b + 1) a c) a
            · have y3 := nI_lt z3 (show iD (rI I) b (dgD (b + 1) a c) a < 2 ^ 31 by omega)
              obtain ⟨F2, j1, j2⟩ := cpD60 (NF := NF) (w1 := w1) (g := g) (l4 := nI j) (r22 := nI (cD b (dgD (b + 1) a j) a)) (r39 := nI (iD (rI I) b (dgD (b + 1) a j) a)) (V := V) (F := F1) h24 a3 (fun z0 z1 z2 z3 z4 z5 z6 => gsY_X11_dress_1_L11 NF p1 V fu z0 z1 z2 z3 z4 z5 z6)
              refine Or.inl ⟨(nI (cD b (dgD (b + 1) a j) a), nI (iD (rI I) b (dgD (b + 1) a j) a), F2), ⟨fun m c hm hc => by show F2 28 (6 * m + c) = I m c; rw [j1 28 (by decide)]; exact f28 m c hm hc, BSD.new (Or.inr ⟨c, h1, h2, h3, h4, h5⟩ : BSD E I a b j l2 l3) hv (fun c0 q0 q1 q2 q3 => ?_)⟩, ?_⟩
              · have e2 : cD b (dgD (b + 1) a c) a = cD b (dgD (b + 1) a c0) a := (nI_eq (by omega) (by have := cl c0; omega)).mp (h3.symm.trans q2)
                have e3 : iD (rI I) b (dgD (b + 1) a c) a = iD (rI I) b (dgD (b + 1) a c0) a := (nI_eq (by omega) (by have := il c0; omega)).mp (h4.symm.trans q3)
                omega
              · show gsY_X11_dress_1_L11 NF p1 V (fu + 1) l2 l3 (nI j) V F w1 g = gsY_X11_dress_1_L11 NF p1 V fu (nI (cD b (dgD (b + 1) a j) a)) (nI (iD (rI I) b (dgD (b + 1) a j) a)) (nI (j + 1)) V F2 w1 g
                rw [h3, h4]
                conv => lhs; unfold gsY_X11_dress_1_L11
                simp only [h25, h24, nI_1, pw, if_neg nle, ld, if_neg n0, if_neg y1, if_pos (congrArg nI z2), ir, if_pos y3]
                rw [nI_1] at j2
                exact j2
            · have y3 := nI_nlt (show iD (rI I) b (dgD (b + 1) a c) a ≤ iD (rI I) b (dgD (b + 1) a j) a by omega) (show iD (rI I) b (dgD (b + 1) a j) a < 2 ^ 31 by omega)
              refine Or.inl ⟨(l2, l3, F1), ⟨f28, BSD.old h1 h2 h3 h4 h5 (Or.inr ⟨z2, by omega⟩)⟩, ?_⟩
              show gsY_X11_dress_1_L11 NF p1 V (fu + 1) l2 l3 (nI j) V F w1 g = gsY_X11_dress_1_L11 NF p1 V fu l2 l3 (nI (j + 1)) V F1 w1 g
              rw [h3, h4]
              conv => lhs; unfold gsY_X11_dress_1_L11
              simp only [h25, h24, nI_1, pw, if_neg nle, ld, if_neg n0, if_neg y1, if_pos (congrArg nI z2), ir, if_neg y3]
          · have y2 : ¬ nI (cD b (dgD (b + 1) a j) a) = nI (cD b (dgD (b + 1) a c) a) := fun q => z2 ((nI_eq (by omega) (by omega)).mp q)
            obtain ⟨F2, j1, j2⟩ := cpD41 (NF := NF) (w1 := w1) (g := g) (l4 := nI j) (r22 := nI (cD b (dgD (b + 1) a j) a)) (r39 := nI (iD (rI I) b (dgD (b + 1) a j) a)) (V := V) (F := F1) h24 a3 (fun z0 z1 z2 z3 z4 z5 z6 => gsY_X11_dress_1_L11 NF p1 V fu z0 z1 z2 z3 z4 z5 z6)
            refine Or.inl ⟨(nI (cD b (dgD (b + 1) a j) a), nI (iD (rI I) b (dgD (b + 1) a j) a), F2), ⟨fun m c hm hc => by show F2 28 (6 * m + c) = I m c; rw [j1 28 (by decide)]; exact f28 m c hm hc, BSD.new (Or.inr ⟨c, h1, h2, h3, h4, h5⟩ : BSD E I a b j l2 l3) hv (fun c0 q0 q1 q2 q3 => ?_)⟩, ?_⟩
            · have e2 : cD b (dgD (b + 1) a c) a = cD b (dgD (b + 1) a c0) a := (nI_eq (by omega) (by have := cl c0; omega)).mp (h3.symm.trans q2)
              omega
            · show gsY_X11_dress_1_L11 NF p1 V (fu + 1) l2 l3 (nI j) V F w1 g = gsY_X11_dress_1_L11 NF p1 V fu (nI (cD b (dgD (b + 1) a j) a)) (nI (iD (rI I) b (dgD (b + 1) a j) a)) (nI (j + 1)) V F2 w1 g
              rw [h3]
              conv => lhs; unfold gsY_X11_dress_1_L11
              simp only [h25, h24, nI_1, pw, if_neg nle, ld, if_neg n0, if_neg y1, if_neg y2, ir]
              rw [nI_1] at j2
              exact j2
    · have hv : ¬ VD (fB E I) a b (dgD (b + 1) a j) := fun q => o (OD.vd.mpr q)
      have ld : gsY_X11_layDress_1 NF (nI j) V F w1 g = (-1, V, F1, w1, g) := by
        simp only [gsY_X11_layDress_1, h24]
        exact o3
      refine Or.inl ⟨(l2, l3, F1), ⟨f28, hb.skip hv⟩, ?_⟩
      show gsY_X11_dress_1_L11 NF p1 V (fu + 1) l2 l3 (nI j) V F w1 g = gsY_X11_dress_1_L11 NF p1 V fu l2 l3 (nI (j + 1)) V F1 w1 g
      conv => lhs; unfold gsY_X11_dress_1_L11
      simp only [h25, h24, nI_1, pw, if_neg nle, ld, if_pos (show (-1 : Int32) < 0 by decide)]
  · rintro fu ⟨l2, l3, F⟩ ⟨k28, hb⟩
    refine ⟨upd V 37 (V 24), F, l2, l3, hb, ?_⟩
    show gsY_X11_dress_1_L11 NF p1 V (fu + 1) l2 l3 (nI ((b + 1) ^ a)) V F w1 g = _
    conv => lhs; unfold gsY_X11_dress_1_L11
    by_cases z : p1 = 0
    · simp only [h25, h24, nI_1, pw, if_pos (nI_le (Nat.le_refl ((b + 1) ^ a)) (show (b + 1) ^ a < 2 ^ 31 by omega)), if_pos z]
    · simp only [h25, h24, nI_1, pw, if_pos (nI_le (Nat.le_refl ((b + 1) ^ a)) (show (b + 1) ^ a < 2 ^ 31 by omega)), if_neg z]
theorem dr_end {T : Nat} {l2 l3 : Int32} (a3 : a ≤ 6) (hR : RGE I a b) (D : DRP E I a b a T dg) (B : BSD E I a b ((b + 1) ^ a) l2 l3) : l2 = nI (cD b dg a) ∧ l3 = nI (iD (rI I) b dg a) := by
  obtain ⟨_, d2, d3, d4, d5⟩ := D
  have hR' : ∀ m c, m < a → c < b → rI I m c ≤ 999 := fun m c hm hc => (hR m c hm hc).1
  have lt := enD_lt (K := b + 1) (c := dg) a (fun i hi => Nat.lt_succ_of_le (d2 i hi))
  have dgs := enD_dg (K := b + 1) (c := dg) a (fun i hi => Nat.lt_succ_of_le (d2 i hi))
  have vd : VD (fB E I) a b dg := ⟨fun i hi hb => (d3 i hi hb).1, d4⟩
  have vc : VD (fB E I) a b (dgD (b + 1) a (enD (b + 1) dg a)) := VD_cg (fun i hi => (dgs i hi).symm) vd
  rw [show bsN (fB E I) (rI I) a b (a - a) T = 0 by rw [Nat.sub_self]; rfl] at d5
  rcases B with ⟨_, h2⟩ | ⟨c, h1, h2, h3, h4, h5⟩
  · exact absurd vc (h2 _ lt)
  · have q := h5 _ lt vc
    rw [cD_cg (b := b) a dgs, iD_cg (R := rI I) (b := b) a dgs] at q
    have ub := dr_ub hR' h2 a 0 0 (Nat.zero_add a) (fun j _ _ _ => Nat.zero_testBit _)
    have ub : 10000 * cD b (dgD (b + 1) a c) a + 0 ≤ bsN (fB E I) (rI I) a b a 0 + iD (rI I) b (dgD (b + 1) a c) a + 10000 * 0 := ub
    have i1 := iD_le (dg := dgD (b + 1) a c) hR' a (Nat.le_refl a)
    have i2 := iD_le (dg := dg) hR' a (Nat.le_refl a)
    have cl := cD_le (b := b) (dg := dg) a
    have key : cD b (dgD (b + 1) a c) a = cD b dg a ∧ iD (rI I) b (dgD (b + 1) a c) a = iD (rI I) b dg a := by omega
    obtain ⟨k1, k2⟩ := key
    exact ⟨by rw [h3, k1], by rw [h4, k2]⟩
end
theorem FREL.dress (h : FREL v f v1 f1) {p1 : Int32} (e : gsX_X10_dress_1 NF p1 v f = (r, u)) (e' : gsY_X11_dress_1 NF p1 v1 f1 w1 g = (r', u')) : r = r' := by
  obtain ⟨hr, a, b, a1, a2, a3, b1, b2, b3, sm, sc, nw, ac, bx⟩ := h
  have G : GS v f v1 f1 a b := ⟨a1, a2, a3, b1, b3, sm, hr.2.1.2.2, hr.2.1.2.1.1, nw⟩
  have es : v 33 = v1 26 := hr.2.1.2.1.1
  have hR := G.rgD (NF := NF) w1 g
  obtain ⟨V', y', T, dg, D, x1, x2, x3⟩ := G.dressX (NF := NF) w1 g
  have n01 : ¬ (0 : Int32) = 1 := by decide
  by_cases c1 : p1 < 0
  · have c2 : ¬ p1 = 0 := fun z => by rw [z] at c1; exact absurd c1 (by decide)
    have c3 : ¬ p1 = 1 := fun z => by rw [z] at c1; exact absurd c1 (by decide)
    simp only [gsX_X10_dress_1, x3, if_neg c2, if_neg c3] at e
    simp only [gsY_X11_dress_1, gsY_X11_isIn_1, if_pos c1, ite01] at e'
    cases e; cases e'; rfl
  · by_cases c2 : (1 : Int32) < p1
    · have c3 : ¬ p1 = 0 := fun z => by rw [z] at c2; exact absurd c2 (by decide)
      have c4 : ¬ p1 = 1 := fun z => by rw [z] at c2; exact absurd c2 (by decide)
      simp only [gsX_X10_dress_1, x3, if_neg c3, if_neg c4] at e
      simp only [gsY_X11_dress_1, gsY_X11_isIn_1, if_neg c1, if_pos c2, ite01] at e'
      cases e; cases e'; rfl
    · obtain ⟨F, i1, _, i3, i4⟩ := G.illsY (NF := NF) b2 w1 g
      obtain ⟨V1', F', l2, l3, k1, k2⟩ := dress11 (NF := NF) (p1 := p1) (V := v1) (F0 := F) (w1 := w1) (g := g) hR a2 b2 es.symm a3 b3 i3
      obtain ⟨m1, m2⟩ := dr_end a3 hR D k1
      simp only [gsY_X11_dress_1, gsY_X11_isIn_1, if_neg c1, if_neg c2, ite11, if_true, i4, k2] at e'
      by_cases z0 : p1 = 0
      · simp only [if_pos z0] at e'
        simp only [gsX_X10_dress_1, x3, if_pos z0] at e
        cases e; cases e'
        exact x1.trans m1.symm
      · have z1 : p1 = 1 := by
          apply Int32.toInt_inj.mp
          have a1 : ¬ p1.toInt < (0 : Int32).toInt := fun q => c1 ((fa_lt _ _).mpr q)
          have a2 : ¬ (1 : Int32).toInt < p1.toInt := fun q => c2 ((fa_lt _ _).mpr q)
          have a3 : ¬ p1.toInt = (0 : Int32).toInt := fun q => z0 (Int32.toInt_inj.mp q)
          have b0 : (0 : Int32).toInt = 0 := by decide
          have b1 : (1 : Int32).toInt = 1 := by decide
          omega
        simp only [if_neg z0] at e'
        simp only [gsX_X10_dress_1, x3, if_neg z0, if_pos z1] at e
        cases e; cases e'
        exact x2.trans m2.symm
end
end
