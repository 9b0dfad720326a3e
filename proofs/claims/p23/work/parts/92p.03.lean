section
section
variable {NF : Nat} {v : Nat → Int32} {f : Nat → Nat → Int32} {v1 : Nat → Int32} {f1 : Nat → Nat → Int32} {w1 : Int64} {g : Nat → Int64} {r r' : Int32} {u : (Nat → Int32) × (Nat → Nat → Int32)} {u' : (Nat → Int32) × (Nat → Nat → Int32) × Int64 × (Nat → Int64)}
theorem QC.wearX {a b : Nat} {A R : Nat → Nat → Int32} (Q : QC NF v f v1 f1 w1 g a b A R) : gsX_X1_wearers_1 NF v f = nI (bts (wrB (f 15)) a) := by
  have a3 := Q.a3
  have b3 := Q.b3
  refine acc0 (NF := NF) (L := fun fu s i => gsX_X1_wearers_1_L1 NF v f fu s i) (fun j => nI (bts (wrB (f 15)) j)) (by omega) (fun fu j hj => ?_) (fun fu => ?_)
  · obtain ⟨o1, o2⟩ := bts_or (p := wrB (f 15)) (n := j) (by omega)
    have nle : ¬ nI a ≤ nI j := nI_ge hj (by omega)
    show gsX_X1_wearers_1_L1 NF v f (fu + 1) (nI (bts (wrB (f 15)) j)) (nI j) = gsX_X1_wearers_1_L1 NF v f fu (nI (bts (wrB (f 15)) (j + 1))) (nI (j + 1))
    rcases (Q.nw.1 j hj).2.2.2 with q2 | ⟨c, hc, q2⟩
    · rw [← (o2 (by rw [wrB_0 q2]; decide)).2]
      conv => lhs; unfold gsX_X1_wearers_1_L1
      simp only [Q.a1, xWears1 (NF := NF) (F := f) Q.a1 Q.a3 hj, q2, nI_1]
      rw [if_neg nle, if_pos trivial]
    · rw [← o1 (wrB_1 (by rw [q2]; exact nI_nm1 (by omega)))]
      conv => lhs; unfold gsX_X1_wearers_1_L1
      simp only [Q.a1, xWears1 (NF := NF) (F := f) Q.a1 Q.a3 hj, q2, if_neg (nI_nm1 (show c < 2 ^ 31 by omega)), nI_1]
      rw [if_neg nle]
  · show gsX_X1_wearers_1_L1 NF v f (fu + 1) (nI (bts (wrB (f 15)) a)) (nI a) = _
    simp only [gsX_X1_wearers_1_L1, Q.a1]
    rw [if_pos (nI_le (Nat.le_refl _) (by omega))]
theorem QC.wearY {a b : Nat} {A R : Nat → Nat → Int32} (Q : QC NF v f v1 f1 w1 g a b A R) : gsY_X11_wearers_1 NF v1 A w1 g = nI (bts (wrB (f 15)) a) :=
  yWearers (NF := NF) Q.a2 Q.a3 (fun m hm => ⟨(Q.nw.1 m hm).2.2.1.symm, (Q.nw.1 m hm).2.2.2⟩) Q.b3
def wdS (T : Nat) (x : Nat → Int32) : Nat → Int32
  | 0 => 0
  | m + 1 => if T / 2 ^ m % 2 = 1 then wdS T x m + x (18 + nv (x (6 + m))) else wdS T x m
theorem QC.wideX {a b T : Nat} {A R : Nat → Nat → Int32} (Q : QC NF v f v1 f1 w1 g a b A R) (hT : T < 64) (hs : ∀ j, j < a → T / 2 ^ j % 2 = 1 → ¬ f 15 (6 + j) = -1) : gsX_X2_wideTogether_1 NF (nI T) v f = wdS T (f 15) a := by
  have a3 := Q.a3
  have b3 := Q.b3
  refine acc0 (NF := NF) (L := fun fu s i => gsX_X2_wideTogether_1_L1 NF (nI T) v f fu s i) (fun j => wdS T (f 15) j) (by omega) (fun fu j hj => ?_) (fun fu => ?_)
  · have nle : ¬ nI a ≤ nI j := nI_ge hj (by omega)
    obtain ⟨B1, _⟩ := bitT T hT j (by omega)
    have em : wdS T (f 15) (j + 1) = (if T / 2 ^ j % 2 = 1 then wdS T (f 15) j + f 15 (18 + nv (f 15 (6 + j))) else wdS T (f 15) j) := rfl
    show gsX_X2_wideTogether_1_L1 NF (nI T) v f (fu + 1) (wdS T (f 15) j) (nI j) = gsX_X2_wideTogether_1_L1 NF (nI T) v f fu (wdS T (f 15) (j + 1)) (nI (j + 1))
    by_cases z : T / 2 ^ j % 2 = 1
    · rw [if_pos z] at em
      rw [z] at B1
      obtain ⟨c, hc, q2⟩ := (Q.nw.1 j hj).2.2.2.resolve_left (hs j hj z)
      have ec : nv (f 15 (6 + j)) = c := by rw [q2]; exact nv_nI (by omega)
      have xp : gsX_X1_part_1 NF 1 (nI c) v f = f 15 (18 + c) := xPart1 (NF := NF) (F := f) (p := 1) Q.b1 Q.b3 hc (by decide)
      rw [em, ec]
      conv => lhs; unfold gsX_X2_wideTogether_1_L1
      simp only [Q.a1, B1, xWears1 (NF := NF) (F := f) Q.a1 Q.a3 hj, q2, xp, nI_1]
      rw [if_neg nle, if_neg (show ¬ nI 1 = (0 : Int32) by decide)]
    · have z0 : T / 2 ^ j % 2 = 0 := by omega
      rw [if_neg z] at em
      rw [z0] at B1
      rw [em]
      conv => lhs; unfold gsX_X2_wideTogether_1_L1
      simp only [Q.a1, B1, nI_1]
      rw [if_neg nle, if_pos (show nI 0 = (0 : Int32) from rfl)]
  · show gsX_X2_wideTogether_1_L1 NF (nI T) v f (fu + 1) (wdS T (f 15) a) (nI a) = _
    simp only [gsX_X2_wideTogether_1_L1, Q.a1]
    rw [if_pos (nI_le (Nat.le_refl _) (by omega))]
theorem QC.wideY {a b T : Nat} {A R : Nat → Nat → Int32} (Q : QC NF v f v1 f1 w1 g a b A R) (hT : T < 64) (hs : ∀ j, j < a → T / 2 ^ j % 2 = 1 → ¬ f 15 (6 + j) = -1) : gsY_X11_wideOf_1 NF (nI T) v1 A w1 g = wdS T (f 15) a := by
  have a3 := Q.a3
  have b3 := Q.b3
  refine acc0 (NF := NF) (L := fun fu s i => gsY_X11_wideOf_1_L1 NF (nI T) v1 A fu s i) (fun j => wdS T (f 15) j) (by omega) (fun fu j hj => ?_) (fun fu => ?_)
  · have nle : ¬ nI a ≤ nI j := nI_ge hj (by omega)
    obtain ⟨B1, _⟩ := bitT T hT j (by omega)
    have em : wdS T (f 15) (j + 1) = (if T / 2 ^ j % 2 = 1 then wdS T (f 15) j + f 15 (18 + nv (f 15 (6 + j))) else wdS T (f 15) j) := rfl
    show gsY_X11_wideOf_1_L1 NF (nI T) v1 A (fu + 1) (wdS T (f 15) j) (nI j) = gsY_X11_wideOf_1_L1 NF (nI T) v1 A fu (wdS T (f 15) (j + 1)) (nI (j + 1))
    have k6 : (6 : Int32) + nI j = nI (6 + j) := nI_add 6 j
    have c6 : (nI (6 + j)).toNatClampNeg = 6 + j := nI_clamp (by omega)
    by_cases z : T / 2 ^ j % 2 = 1
    · rw [if_pos z] at em
      rw [z] at B1
      obtain ⟨_, _, q1, q3⟩ := Q.nw.1 j hj
      obtain ⟨c, hc, q2⟩ := q3.resolve_left (hs j hj z)
      have ec : nv (f 15 (6 + j)) = c := by rw [q2]; exact nv_nI (by omega)
      have k18 : (18 : Int32) + nI c = nI (18 + c) := nI_add 18 c
      have c18 : (nI (18 + c)).toNatClampNeg = 18 + c := nI_clamp (by omega)
      rw [em, ec]
      conv => lhs; unfold gsY_X11_wideOf_1_L1
      simp only [Q.a2, B1, k6, c6, ← q1, q2, k18, c18, ← (Q.nw.2.1 c hc).2.1.1, nI_1]
      rw [if_neg nle, if_pos (show nI 1 = (1 : Int32) from rfl)]
    · have z0 : T / 2 ^ j % 2 = 0 := by omega
      rw [if_neg z] at em
      rw [z0] at B1
      rw [em]
      conv => lhs; unfold gsY_X11_wideOf_1_L1
      simp only [Q.a2, B1, Int32.add_zero, nI_1]
      rw [if_neg nle, if_neg (show ¬ nI 0 = (1 : Int32) by decide)]
  · show gsY_X11_wideOf_1_L1 NF (nI T) v1 A (fu + 1) (wdS T (f 15) a) (nI a) = _
    simp only [gsY_X11_wideOf_1_L1, Q.a2]
    rw [if_pos (nI_le (Nat.le_refl _) (by omega))]
theorem FREL.breadth (h : FREL v f v1 f1) (e : gsX_X10_breadth_1 NF v f = r) (e' : gsY_X11_breadth_1 NF v1 f1 w1 g = (r', u')) : r = r' := by
  obtain ⟨a, b, A, R, Q⟩ := h.qc (NF := NF) w1 g
  have a3 := Q.a3
  have h64 : bts (wrB (f 15)) a < 64 := by
    have h1 := bts_lt (wrB (f 15)) a a3
    have h2 := p2le a a3
    omega
  have hs : ∀ j, j < a → bts (wrB (f 15)) a / 2 ^ j % 2 = 1 → ¬ f 15 (6 + j) = -1 := fun j hj q z => by
    rw [bts_bit _ a a3 j hj, wrB_0 z] at q
    exact absurd q (by decide)
  simp only [gsX_X10_breadth_1, Q.wearX, Q.wideX h64 hs] at e
  simp only [gsY_X11_breadth_1, Q.fl, Q.wearY, Q.wideY h64 hs] at e'
  cases e'
  exact e.symm
end
end
section
section
variable {NF : Nat} {v : Nat → Int32} {f : Nat → Nat → Int32} {v1 : Nat → Int32} {f1 : Nat → Nat → Int32} {w1 : Int64} {g : Nat → Int64} {r r' : Int32} {u' : (Nat → Int32) × (Nat → Nat → Int32) × Int64 × (Nat → Int64)}
theorem nI_nlt0 {n : Nat} (h : n < 2 ^ 31) : ¬ nI n < 0 := fun z => by
  rw [← nI_0] at z
  have := (nI_ltI h (by decide)).mp z
  omega
theorem sbT : ∀ W, W < 64 → ∀ j, j < 64 → nI j &&& (nI W ^^^ (-1)) = (0 : Int32) → j ≤ W ∧ ∀ i, i < 6 → j / 2 ^ i % 2 = 1 → W / 2 ^ i % 2 = 1 := by decide +kernel
def pcN (T : Nat) : Nat := T % 2 + T / 2 % 2 + T / 4 % 2 + T / 8 % 2 + T / 16 % 2 + T / 32 % 2
theorem bcX : ∀ T, T < 64 → gsX_J6_bitCount_0f7a4_1 0 (nI T) (fun _ => 0) (fun _ _ => 0) = nI (pcN T) := by decide +kernel
theorem bcX1 {T : Nat} (hT : T < 64) : gsX_J6_bitCount_0f7a4_1 NF (nI T) v f = nI (pcN T) := bcX T hT
theorem pcN_le (T : Nat) : pcN T ≤ 6 := by unfold pcN; omega
def pcA (T : Nat) : Nat → Nat
  | 0 => 0
  | j + 1 => pcA T j + T / 2 ^ j % 2
theorem pcA6 : ∀ T, T < 64 → pcA T 6 = pcN T := by decide +kernel
theorem mbY {T : Nat} (hT : T < 64) (F : Nat → Nat → Int32) : gsY_X11_members_1 NF (nI T) v1 F w1 g = nI (pcN T) := by
  rw [← pcA6 T hT]
  refine acc0 (NF := NF) (L := fun fu s i => gsY_X11_members_1_L1 NF (nI T) fu s i) (n := 6) (fun j => nI (pcA T j)) (by omega) (fun fu j hj => ?_) (fun fu => ?_)
  · have nle : ¬ (6 : Int32) ≤ nI j := lit_nle (b := 6) (by decide) hj (by decide)
    obtain ⟨B1, _⟩ := bitT T hT j hj
    show gsY_X11_members_1_L1 NF (nI T) (fu + 1) (nI (pcA T j)) (nI j) = gsY_X11_members_1_L1 NF (nI T) fu (nI (pcA T j + T / 2 ^ j % 2)) (nI (j + 1))
    conv => lhs; unfold gsY_X11_members_1_L1
    simp only [B1, nI_add, nI_1]
    rw [if_neg nle]
  · show gsY_X11_members_1_L1 NF (nI T) (fu + 1) (nI (pcA T 6)) (nI 6) = _
    simp only [gsY_X11_members_1_L1]
    rw [if_pos (show (6 : Int32) ≤ nI 6 by decide)]
def frN (p : Int32) (W : Nat) (x : Nat → Int32) (a : Nat) : Nat → Option Nat
  | 0 => none
  | j + 1 => match frN p W x a j with
    | none => if nI j &&& (nI W ^^^ (-1)) = (0 : Int32) then (if wdS j x a < p then none else some j) else none
    | some k => if nI j &&& (nI W ^^^ (-1)) = (0 : Int32) then (if wdS j x a < p then some k else (if pcN k ≤ pcN j then some k else some j)) else some k
def oI : Option Nat → Int32
  | none => -1
  | some k => nI k
theorem frN_lt {p : Int32} {W : Nat} {x : Nat → Int32} {a : Nat} : ∀ j k, frN p W x a j = some k → k < j := by
  intro j
  induction j with
  | zero => intro k h; have h : (none : Option Nat) = some k := h; cases h
  | succ j ih =>
    intro k h
    simp only [frN] at h
    revert h
    rcases e : frN p W x a j with _ | k0
    · show (if nI j &&& (nI W ^^^ (-1)) = (0 : Int32) then (if wdS j x a < p then none else some j) else none) = some k → _
      split
      · split
        · intro h; cases h
        · intro h; cases h; omega
      · intro h; cases h
    · have h0 := ih k0 e
      show (if nI j &&& (nI W ^^^ (-1)) = (0 : Int32) then (if wdS j x a < p then some k0 else (if pcN k0 ≤ pcN j then some k0 else some j)) else some k0) = some k → _
      split
      · split
        · intro h; cases h; omega
        · split
          · intro h; cases h; omega
          · intro h; cases h; omega
      · intro h; cases h; omega
theorem frN_up {p : Int32} {W : Nat} {x : Nat → Int32} {a : Nat} (hW : W < 64) : ∀ d, W + 1 + d ≤ 64 → frN p W x a (W + 1 + d) = frN p W x a (W + 1) := by
  intro d
  induction d with
  | zero => intro _; rfl
  | succ d ih =>
    intro h
    have ns : ¬ nI (W + 1 + d) &&& (nI W ^^^ (-1)) = (0 : Int32) := fun z => by
      have := (sbT W hW (W + 1 + d) (by omega) z).1
      omega
    have ih := ih (by omega)
    show frN p W x a ((W + 1 + d) + 1) = _
    rw [← ih]
    simp only [frN]
    rcases frN p W x a (W + 1 + d) with _ | k
    · exact if_neg ns
    · exact if_neg ns
theorem QC.frontX {a b : Nat} {A R : Nat → Nat → Int32} (Q : QC NF v f v1 f1 w1 g a b A R) (p : Int32) : gsX_X2_frontOf_1 NF p v f = oI (frN p (bts (wrB (f 15)) a) (f 15) a 64) := by
  have a3 := Q.a3
  have h64 : bts (wrB (f 15)) a < 64 := by
    have h1 := bts_lt (wrB (f 15)) a a3
    have h2 := p2le a a3
    omega
  have hs : ∀ j, j < a → bts (wrB (f 15)) a / 2 ^ j % 2 = 1 → ¬ f 15 (6 + j) = -1 := fun j hj q z => by
    rw [bts_bit _ a a3 j hj, wrB_0 z] at q
    exact absurd q (by decide)
  simp only [gsX_X2_frontOf_1, Q.wearX]
  generalize bts (wrB (f 15)) a = W at h64 hs ⊢
  refine acc0 (NF := NF) (L := fun fu s i => gsX_X2_frontOf_1_L4 NF p v f (nI W ^^^ (-1)) fu s i) (n := 64) (fun j => oI (frN p W (f 15) a j)) (by omega) (fun fu j hj => ?_) (fun fu => ?_)
  · have nle : ¬ (64 : Int32) ≤ nI j := lit_nle (b := 64) (by decide) hj (by decide)
    show gsX_X2_frontOf_1_L4 NF p v f (nI W ^^^ (-1)) (fu + 1) (oI (frN p W (f 15) a j)) (nI j) = gsX_X2_frontOf_1_L4 NF p v f (nI W ^^^ (-1)) fu (oI (frN p W (f 15) a (j + 1))) (nI (j + 1))
    have lt := frN_lt (p := p) (W := W) (x := f 15) (a := a) j
    simp only [frN]
    revert lt
    rcases frN p W (f 15) a j with _ | k
    · intro _
      by_cases z : nI j &&& (nI W ^^^ (-1)) = (0 : Int32)
      · have wd := Q.wideX hj (fun i hi q => hs i hi ((sbT W h64 j hj z).2 i (by omega) q))
        by_cases z1 : wdS j (f 15) a < p
        · simp only [if_pos z, if_pos z1]
          conv => lhs; unfold gsX_X2_frontOf_1_L4
          simp only [oI, if_neg nle, if_true, z, wd, if_pos z1, nI_1]
        · simp only [if_pos z, if_neg z1]
          conv => lhs; unfold gsX_X2_frontOf_1_L4
          simp only [oI, if_neg nle, if_true, z, wd, if_neg z1, nI_1]
      · simp only [if_neg z]
        conv => lhs; unfold gsX_X2_frontOf_1_L4
        simp only [oI, if_neg nle, if_true, if_neg z, nI_1]
    · intro lt
      have hk : k < 64 := by have := lt k rfl; omega
      have nk : ¬ nI k = -1 := nI_nm1 (by omega)
      have p1 := pcN_le k
      have p2 := pcN_le j
      by_cases z2 : pcN k ≤ pcN j
      · have y2 : nI (pcN k) ≤ nI (pcN j) := nI_le z2 (by omega)
        have e0 : ∀ (c d : Prop) [Decidable c] [Decidable d], (if c then (if d then some k else (if pcN k ≤ pcN j then some k else some j)) else some k) = some k := fun c d _ _ => by
          rw [if_pos z2]
          split
          · split <;> rfl
          · rfl
        simp only [e0]
        conv => lhs; unfold gsX_X2_frontOf_1_L4
        simp only [oI, if_neg nle, if_neg nk, bcX1 hj, bcX1 hk, if_pos y2, nI_1]
        split <;> rfl
      · have y2 : ¬ nI (pcN k) ≤ nI (pcN j) := nI_ge (by omega) (by omega)
        by_cases z : nI j &&& (nI W ^^^ (-1)) = (0 : Int32)
        · have wd := Q.wideX hj (fun i hi q => hs i hi ((sbT W h64 j hj z).2 i (by omega) q))
          by_cases z1 : wdS j (f 15) a < p
          · simp only [if_pos z, if_pos z1]
            conv => lhs; unfold gsX_X2_frontOf_1_L4
            simp only [oI, if_neg nle, if_neg nk, bcX1 hj, bcX1 hk, if_neg y2, z, if_true, wd, if_pos z1, nI_1]
          · simp only [if_pos z, if_neg z1, if_neg z2]
            conv => lhs; unfold gsX_X2_frontOf_1_L4
            simp only [oI, if_neg nle, if_neg nk, bcX1 hj, bcX1 hk, if_neg y2, z, if_true, wd, if_neg z1, nI_1]
        · simp only [if_neg z]
          conv => lhs; unfold gsX_X2_frontOf_1_L4
          simp only [oI, if_neg nle, if_neg nk, bcX1 hj, bcX1 hk, if_neg y2, if_neg z, nI_1]
  · show gsX_X2_frontOf_1_L4 NF p v f (nI W ^^^ (-1)) (fu + 1) (oI (frN p W (f 15) a 64)) (nI 64) = _
    conv => lhs; unfold gsX_X2_frontOf_1_L4
    rw [if_pos (show (64 : Int32) ≤ nI 64 by decide)]
def frR (p2 : Int32) : Option Nat → Int32
  | none => -1
  | some k => if p2 = 0 then nI (pcN k) else nI k
theorem QC.frontY {a b : Nat} {A R : Nat → Nat → Int32} (Q : QC NF v f v1 f1 w1 g a b A R) (p p2 : Int32) : gsY_X11_front_1_L17 NF p p2 v1 A w1 g (nI (bts (wrB (f 15)) a)) (4294967296 + NF) (-1) 0 = (frR p2 (frN p (bts (wrB (f 15)) a) (f 15) a 64), v1, A, w1, g) := by
  have a3 := Q.a3
  have h64 : bts (wrB (f 15)) a < 64 := by
    have h1 := bts_lt (wrB (f 15)) a a3
    have h2 := p2le a a3
    omega
  have hs : ∀ j, j < a → bts (wrB (f 15)) a / 2 ^ j % 2 = 1 → ¬ f 15 (6 + j) = -1 := fun j hj q z => by
    rw [bts_bit _ a a3 j hj, wrB_0 z] at q
    exact absurd q (by decide)
  generalize bts (wrB (f 15)) a = W at h64 hs ⊢
  have eu := frN_up (p := p) (x := f 15) (a := a) h64 (63 - W) (by omega)
  rw [show W + 1 + (63 - W) = 64 by omega] at eu
  rw [eu]
  refine lpQ (S := Int32) (fun fu i s => gsY_X11_front_1_L17 NF p p2 v1 A w1 g (nI W) fu s i) (fun r => r = (frR p2 (frN p W (f 15) a (W + 1)), v1, A, w1, g)) (fun j s => s = oI (frN p W (f 15) a j)) (W + 1) ?_ ?_ (W + 1) 0 (4294967296 + NF) (-1) (by omega) (by omega) rfl
  · intro fu j s hj hs'
    have hs' : s = oI (frN p W (f 15) a j) := hs'
    subst hs'
    refine Or.inl ⟨oI (frN p W (f 15) a (j + 1)), rfl, ?_⟩
    have nlt : ¬ nI W < nI j := fun z => by have := (nI_ltI (by omega) (by omega)).mp z; omega
    have hj6 : j < 64 := by omega
    show gsY_X11_front_1_L17 NF p p2 v1 A w1 g (nI W) (fu + 1) (oI (frN p W (f 15) a j)) (nI j) = gsY_X11_front_1_L17 NF p p2 v1 A w1 g (nI W) fu (oI (frN p W (f 15) a (j + 1))) (nI (j + 1))
    have lt := frN_lt (p := p) (W := W) (x := f 15) (a := a) j
    simp only [frN]
    by_cases z : nI j &&& (nI W ^^^ (-1)) = (0 : Int32)
    · have wd := Q.wideY hj6 (fun i hi q => hs i hi ((sbT W h64 j hj6 z).2 i (by omega) q))
      by_cases z1 : wdS j (f 15) a < p
      · simp only [if_pos z, if_pos z1]
        conv => lhs; unfold gsY_X11_front_1_L17
        simp only [if_neg nlt, z, if_true, wd, if_pos z1, nI_1]
        rcases frN p W (f 15) a j with _ | k <;> rfl
      · simp only [if_pos z, if_neg z1]
        revert lt
        rcases frN p W (f 15) a j with _ | k
        · intro _
          conv => lhs; unfold gsY_X11_front_1_L17
          simp only [oI, if_neg nlt, z, if_true, wd, if_neg z1, if_pos m1_lt, nI_1]
        · intro lt
          have hk : k < 64 := by have := lt k rfl; omega
          have p1 := pcN_le k
          have p2' := pcN_le j
          have k0 : ¬ nI k < 0 := nI_nlt0 (by omega)
          by_cases z2 : pcN k ≤ pcN j
          · have y2 : nI (pcN k) ≤ nI (pcN j) := nI_le z2 (by omega)
            simp only [if_pos z2]
            conv => lhs; unfold gsY_X11_front_1_L17
            simp only [oI, if_neg nlt, z, if_true, wd, if_neg z1, if_neg k0, mbY hj6, mbY hk, if_pos y2, nI_1]
          · have y2 : ¬ nI (pcN k) ≤ nI (pcN j) := nI_ge (by omega) (by omega)
            simp only [if_neg z2]
            conv => lhs; unfold gsY_X11_front_1_L17
            simp only [oI, if_neg nlt, z, if_true, wd, if_neg z1, if_neg k0, mbY hj6, mbY hk, if_neg y2, nI_1]
    · simp only [if_neg z]
      conv => lhs; unfold gsY_X11_front_1_L17
      simp only [if_neg nlt, if_neg z, nI_1]
      rcases frN p W (f 15) a j with _ | k <;> rfl
  · intro fu s hs'
    have hs' : s = oI (frN p W (f 15) a (W + 1)) := hs'
    subst hs'
    have lt := frN_lt (p := p) (W := W) (x := f 15) (a := a) (W + 1)
    have yl : nI W < nI (W + 1) := nI_lt (by omega) (by omega)
    show gsY_X11_front_1_L17 NF p p2 v1 A w1 g (nI W) (fu + 1) (oI (frN p W (f 15) a (W + 1))) (nI (W + 1)) = (frR p2 (frN p W (f 15) a (W + 1)), v1, A, w1, g)
    revert lt
    rcases frN p W (f 15) a (W + 1) with _ | k
    · intro _
      simp only [gsY_X11_front_1_L17, oI, frR, if_pos yl]
      exact if_neg (show ¬ (0 : Int32) ≤ -1 by decide)
    · intro lt
      have hk : k < 64 := by have := lt k rfl; omega
      have k0 : (0 : Int32) ≤ nI k := lit_le (b := 0) (by decide) (by omega) (by omega)
      simp only [gsY_X11_front_1_L17, oI, frR, if_pos yl, if_pos k0, mbY hk]
      split <;> rfl
theorem FREL.front (h : FREL v f v1 f1) {p p2 : Int32} (e : gsX_X10_front_1 NF p p2 v f = r) (e' : gsY_X11_front_1 NF p p2 v1 f1 w1 g = (r', u')) : r = r' := by
  obtain ⟨a, b, A, R, Q⟩ := h.qc (NF := NF) w1 g
  by_cases c0 : p < 0
  · simp only [gsX_X10_front_1, if_pos c0] at e
    simp only [gsY_X11_front_1, gsY_X11_isIn_1, if_pos c0, ite01] at e'
    cases e'
    exact e.symm
  · by_cases c1 : (999 : Int32) < p
    · simp only [gsX_X10_front_1, if_neg c0, if_pos c1] at e
      simp only [gsY_X11_front_1, gsY_X11_isIn_1, if_neg c0, if_pos c1, ite01] at e'
      cases e'
      exact e.symm
    · by_cases c2 : p2 < 0
      · simp only [gsX_X10_front_1, if_neg c0, if_neg c1, if_pos c2] at e
        simp only [gsY_X11_front_1, gsY_X11_isIn_1, if_neg c0, if_neg c1, if_pos c2, ite01, ite11, if_true] at e'
        cases e'
        exact e.symm
      · by_cases c3 : p2 ≤ 1
        · have c3' : ¬ (1 : Int32) < p2 := fun z => by
            have z1 := (fa_lt _ _).mp z
            have z2 := (fa_le _ _).mp c3
            omega
          simp only [gsX_X10_front_1, if_neg c0, if_neg c1, if_neg c2, if_pos c3, Q.frontX] at e
          simp only [gsY_X11_front_1, gsY_X11_isIn_1, if_neg c0, if_neg c1, if_neg c2, if_neg c3', ite11, if_true, Q.fl, Q.wearY, Q.frontY] at e'
          cases e'
          rw [← e]
          have lt := frN_lt (p := p) (W := bts (wrB (f 15)) a) (x := f 15) (a := a) 64
          revert lt
          rcases frN p (bts (wrB (f 15)) a) (f 15) a 64 with _ | k
          · intro _
            simp only [oI, frR, if_true]
            split <;> rfl
          · intro lt
            have hk : k < 64 := lt k rfl
            simp only [oI, frR, if_neg (nI_nm1 (show k < 2 ^ 31 by omega)), bcX1 hk]
            by_cases c4 : p2 = 1
            · rw [if_pos c4, if_neg (by rw [c4]; decide)]
            · have c5 : p2 = 0 := by
                apply (fa_eq _ _).mpr
                have z1 : ¬ p2.toInt < (0 : Int32).toInt := fun z => c2 ((fa_lt _ _).mpr z)
                have z2 := (fa_le _ _).mp c3
                have z3 : ¬ p2.toInt = (1 : Int32).toInt := fun z => c4 ((fa_eq _ _).mpr z)
                have o1 : ((1 : Int32)).toInt = 1 := by decide
                have o0 : ((0 : Int32)).toInt = 0 := by decide
                rw [o1] at z2 z3
                rw [o0] at z1 ⊢
                omega
              rw [if_neg c4, if_pos c5]
        · have c3' : (1 : Int32) < p2 := lt_of_nle c3
          simp only [gsX_X10_front_1, if_neg c0, if_neg c1, if_neg c2, if_neg c3] at e
          simp only [gsY_X11_front_1, gsY_X11_isIn_1, if_neg c0, if_neg c1, if_neg c2, if_pos c3', ite01, ite11, if_true] at e'
          cases e'
          exact e.symm
end
end
section
section
theorem ud_n {v : Nat → Int32} {j k : Nat} {x : Int32} (h : k ≠ j) : upd v j x k = v k := if_neg h
theorem ud_e {v : Nat → Int32} {j : Nat} {x : Int32} : upd v j x j = x := if_pos rfl
theorem u2_e {f : Nat → Nat → Int32} {q : Nat} {g : Nat → Int32} : upd2 f q g q = g := if_pos rfl
def A24 (f1 : Nat → Nat → Int32) : Nat → Nat → Int32 := upd2 f1 24 (f1 23)
theorem A24_n {f1 : Nat → Nat → Int32} {q : Nat} (h : q ≠ 24) : A24 f1 q = f1 q := u2n h
theorem A24_e {f1 : Nat → Nat → Int32} : A24 f1 24 = f1 23 := u2_e
def GS (v : Nat → Int32) (f : Nat → Nat → Int32) (v1 : Nat → Int32) (f1 : Nat → Nat → Int32) (a b : Nat) : Prop := v 31 = nI a ∧ v1 24 = nI a ∧ a ≤ 6 ∧ v 32 = nI b ∧ b ≤ 6 ∧ STM f f1 a ∧ STF v f v1 f1 ∧ v 33 = v1 26 ∧ NWR 999 a b (f 15) (f1 23)
variable {NF : Nat} {v : Nat → Int32} {f : Nat → Nat → Int32} {v1 : Nat → Int32} {f1 : Nat → Nat → Int32} {w1 : Int64} {g : Nat → Int64} {a b : Nat}
theorem FREL.gs (h : FREL v f v1 f1) : ∃ a b, GS v f v1 f1 a b := by
  obtain ⟨hr, a, b, a1, a2, a3, b1, b2, b3, sm, sc, nw, ac, bx⟩ := h
  exact ⟨a, b, a1, a2, a3, b1, b3, sm, hr.2.1.2.2, hr.2.1.2.1.1, nw⟩
theorem GS.up {V : Nat → Int32} (G : GS v f v1 f1 a b) (h : ∀ k, k < 26 ∨ 30 < k → V k = v k) : GS V f v1 f1 a b := by
  obtain ⟨a1, a2, a3, b1, b3, sm, sf, es, nw⟩ := G
  refine ⟨(h 31 (by omega)).trans a1, a2, a3, (h 32 (by omega)).trans b1, b3, sm, ?_, (h 33 (by omega)).trans es, nw⟩
  unfold STF
  rw [h 18 (by omega)]
  exact sf
def gvB (e : Int32) (R : Nat → Nat → Int32) (x : Nat → Int32) (m k : Nat) : Bool := wrB x k && decide (¬ e < R m (nv (x (6 + k))))
theorem GS.fX (G : GS v f v1 f1 a b) (w1 : Int64) (g : Nat → Int64) {y : Nat → Nat → Int32} (hy : ∀ q, q ≠ 13 → q ≠ 14 → y q = f q) {m k : Nat} (hm : m < a) (hk : k < a) : ∃ y' : Nat → Nat → Int32, (∀ q, q ≠ 13 → q ≠ 14 → y' q = f q) ∧ gsX_X1_fits_1 NF (nI m) (f 15 (6 + k)) v y = ((if gvB (v1 26) (yI NF v1 (A24 f1) w1 g) (f 15) m k = true then 1 else 0), v, y') := by
  obtain ⟨a1, a2, a3, b1, b3, sm, sf, es, nw⟩ := G
  rcases (nw.1 k hk).2.2.2 with q2 | ⟨c, hc, q2⟩
  · refine ⟨y, hy, ?_⟩
    have s0 : ¬ gvB (v1 26) (yI NF v1 (A24 f1) w1 g) (f 15) m k = true := by unfold gvB; rw [wrB_0 q2, Bool.false_and]; decide
    rw [if_neg s0, q2]
    exact fitX01 a1 a3 b1 b3 hm
  · have w1' := wrB_1 (x := f 15) (m := k) (by rw [q2]; exact nI_nm1 (by omega))
    have ec : nv (f 15 (6 + k)) = c := by rw [q2]; exact nv_nI (by omega)
    obtain ⟨F', i1, i2, i3⟩ := fitX1 (NF := NF) (F := y) (F1 := A24 f1) (v1 := v1) (w1 := w1) (g := g) a1 a3 b1 b3 sm sf (show 999 ≤ 9999 by decide) (fun q hq => hy q (by omega) (by omega)) (fun q hq => A24_n (by omega)) (by rw [hy 15 (by decide) (by decide), A24_e]; exact nw.cms) hm hc
    refine ⟨F', fun q z1 z2 => (i3 q z1 z2).trans (hy q z1 z2), ?_⟩
    rw [q2, i2, es]
    have eg : gvB (v1 26) (yI NF v1 (A24 f1) w1 g) (f 15) m k = decide (¬ v1 26 < yI NF v1 (A24 f1) w1 g m c) := by
      unfold gvB; rw [w1', ec, Bool.true_and]
    rw [eg]
    by_cases z : v1 26 < yI NF v1 (A24 f1) w1 g m c
    · rw [if_pos z, decide_eq_false (fun q => q z), if_neg (by decide)]
    · rw [if_neg z, decide_eq_true z, if_pos rfl]
theorem pc_bts (p : Nat → Bool) (ha : a ≤ 6) : pcN (bts p a) = cntB p a := by
  have h1 := bts_lt p a ha
  have h2 := p2le a ha
  rw [← pcA6 _ (by omega)]
  have lo : ∀ j, j ≤ a → pcA (bts p a) j = cntB p j := by
    intro j
    induction j with
    | zero => intro _; rfl
    | succ j ih =>
      intro hj
      show pcA (bts p a) j + bts p a / 2 ^ j % 2 = cntB p j + (if p j = true then 1 else 0)
      rw [ih (by omega), bts_bit p a ha j (by omega)]
  have hi : ∀ d, a + d ≤ 6 → pcA (bts p a) (a + d) = cntB p a := by
    intro d
    induction d with
    | zero => intro _; exact lo a (Nat.le_refl _)
    | succ d ih =>
      intro hd
      show pcA (bts p a) (a + d) + bts p a / 2 ^ (a + d) % 2 = cntB p a
      rw [ih (by omega), hiB a ha _ (by omega) h1 (a + d) (by omega) (by omega), Nat.add_zero]
  have := hi (6 - a) (by omega)
  rw [show a + (6 - a) = 6 by omega] at this
  exact this
theorem GS.fY (G : GS v f v1 f1 a b) {γ : Nat → Nat} (hγ : ∀ m, m < a → γ m < a) {F : Nat → Nat → Int32} (hF : ∀ q, q ≠ 7 → q ≠ 8 → q ≠ 24 → F q = f1 q) (hw : ∀ m, m < a → F 24 (6 + m) = f1 23 (6 + γ m)) (ho : ∀ k, (k < 6 ∨ (12 ≤ k ∧ k < 39)) → F 24 k = f1 23 k) : ∃ F' : Nat → Nat → Int32, (∀ q, q ≠ 7 → q ≠ 8 → q ≠ 24 → F' q = f1 q) ∧ gsY_X11_fittedOnes_1 NF v1 F w1 g = (nI (bts (fun m => gvB (v1 26) (yI NF v1 (A24 f1) w1 g) (f 15) m (γ m)) a), v1, F', w1, g) ∧ ∀ F2 : Nat → Nat → Int32, gsY_X11_members_1 NF (nI (bts (fun m => gvB (v1 26) (yI NF v1 (A24 f1) w1 g) (f 15) m (γ m)) a)) v1 F2 w1 g = nI (cntB (fun m => gvB (v1 26) (yI NF v1 (A24 f1) w1 g) (f 15) m (γ m)) a) := by
  obtain ⟨a1, a2, a3, b1, b3, sm, sf, es, nw⟩ := G
  have hx : ∃ x : Nat → Int32, (∀ m, m < a → x (6 + m) = f 15 (6 + γ m)) ∧ (∀ k, (k < 6 ∨ (12 ≤ k ∧ k < 44)) → x k = f 15 k) := by
    refine ⟨fun k => if 6 ≤ k ∧ k < 12 then f 15 (6 + γ (k - 6)) else f 15 k, fun m hm => ?_, fun k hk => ?_⟩
    · show (if 6 ≤ 6 + m ∧ 6 + m < 12 then f 15 (6 + γ (6 + m - 6)) else f 15 (6 + m)) = _
      rw [if_pos (by omega), show 6 + m - 6 = m by omega]
    · show (if 6 ≤ k ∧ k < 12 then f 15 (6 + γ (k - 6)) else f 15 k) = _
      rw [if_neg (by omega)]
  obtain ⟨x, x1, x2⟩ := hx
  have cm : CMS 999 a b x (F 24) := nw.cms.cg a3 b3 x2 ho
  have wr : ∀ m, m < a → F 24 (6 + m) = x (6 + m) ∧ (x (6 + m) = -1 ∨ ∃ c, c < b ∧ x (6 + m) = nI c) := fun m hm => by
    obtain ⟨_, _, q1, q2⟩ := nw.1 (γ m) (hγ m hm)
    rw [hw m hm, x1 m hm]
    exact ⟨q1.symm, q2⟩
  have fq : ∀ q, q = 4 ∨ q = 5 ∨ q = 16 → F q = f1 q := fun q hq => hF q (by omega) (by omega) (by omega)
  obtain ⟨K, k1, k2⟩ := yFitted (NF := NF) (F1 := F) (w1 := w1) (g := g) (x := x) a1 a2 a3 b1 b3 sm sf es (show 999 ≤ 9999 by decide) fq cm wr
  have cg : bts (ftB (v 33) (yI NF v1 F w1 g) x) a = bts (fun m => gvB (v1 26) (yI NF v1 (A24 f1) w1 g) (f 15) m (γ m)) a := by
    refine bts_cg a (fun m hm => ?_)
    show (wrB x m && decide (¬ v 33 < yI NF v1 F w1 g m (nv (x (6 + m))))) = (wrB (f 15) (γ m) && decide (¬ v1 26 < yI NF v1 (A24 f1) w1 g m (nv (f 15 (6 + γ m)))))
    have e6 : wrB x m = wrB (f 15) (γ m) := by unfold wrB; rw [x1 m hm]
    rw [e6, x1 m hm, es]
    rcases (nw.1 (γ m) (hγ m hm)).2.2.2 with q2 | ⟨c, hc, q2⟩
    · rw [wrB_0 q2, Bool.false_and, Bool.false_and]
    · have ec : nv (f 15 (6 + γ m)) = c := by rw [q2]; exact nv_nI (by omega)
      obtain ⟨F', i1, _, _, _⟩ := illY (NF := NF) (F1 := A24 f1) (F2 := F) (w1 := w1) (g := g) a1 a3 b1 b3 sm sf (show 999 ≤ 9999 by decide) (fun q hq => A24_n (by omega)) fq (x := x) (by rw [A24_e]; exact nw.cms.cg a3 b3 x2 (fun _ _ => rfl)) cm hm hc
      have er : yI NF v1 F w1 g m c = yI NF v1 (A24 f1) w1 g m c := by
        show (gsY_X11_misfitOf_1 NF (nI m) (nI c) v1 F w1 g).1 = _
        rw [i1]
      rw [ec, er]
  rw [cg] at k2
  refine ⟨K, fun q z1 z2 z3 => (k1 q z1 z2).trans (hF q z1 z2 z3), k2, fun F2 => ?_⟩
  have h1 := bts_lt (fun m => gvB (v1 26) (yI NF v1 (A24 f1) w1 g) (f 15) m (γ m)) a a3
  have h2 := p2le a a3
  rw [mbY (by omega), pc_bts _ a3]
end
end
section
section
variable {NF : Nat} {v : Nat → Int32} {f : Nat → Nat → Int32} {v1 : Nat → Int32} {f1 : Nat → Nat → Int32} {w1 : Int64} {g : Nat → Int64} {a b : Nat} {r r' : Int32} {u : (Nat → Int32) × (Nat → Nat → Int32)} {u' : (Nat → Int32) × (Nat → Nat → Int32) × Int64 × (Nat → Int64)}
def rg (a k m : Nat) : Nat := if a ≤ m + k then m + k - a else m + k
theorem rg_lt {a k m : Nat} (hk : k < a) (hm : m < a) : rg a k m < a := by
  unfold rg
  split <;> omega
theorem rg_mod {a k m : Nat} (hk : k < a) (hm : m < a) : (m + k) % a = rg a k m := by
  unfold rg
  split
  · rename_i h
    rw [Nat.mod_eq_sub_mod h, Nat.mod_eq_of_lt (by omega)]
  · exact Nat.mod_eq_of_lt (by omega)
def rtC (NF : Nat) (f : Nat → Nat → Int32) (v1 : Nat → Int32) (f1 : Nat → Nat → Int32) (w1 : Int64) (g : Nat → Int64) (a k : Nat) : Nat := cntB (fun m => gvB (v1 26) (yI NF v1 (A24 f1) w1 g) (f 15) m (rg a k m)) a
def rtS (c : Nat → Nat) : Nat → Int32 × Int32
  | 0 => (0, -1)
  | k + 1 => if nI (c k) ≤ (rtS c k).2 then rtS c k else (nI k, nI (c k))
theorem GS.rotaC (G : GS v f v1 f1 a b) (w1 : Int64) (g : Nat → Int64) {k : Nat} (hk : k < a) {y : Nat → Nat → Int32} (hy : ∀ q, q ≠ 13 → q ≠ 14 → y q = f q) : ∃ y' : Nat → Nat → Int32, (∀ q, q ≠ 13 → q ≠ 14 → y' q = f q) ∧ gsX_X3_rotaCount_1 NF (nI k) v y = (nI (rtC NF f v1 f1 w1 g a k), v, y') := by
  have a1 := G.1
  have a3 := G.2.2.1
  refine accX (NF := NF) (v := v) (f := f) (L := fun fu s i w y => gsX_X3_rotaCount_1_L1 NF (nI k) v fu s i w y) (fun j => nI (cntB (fun m => gvB (v1 26) (yI NF v1 (A24 f1) w1 g) (f 15) m (rg a k m)) j)) (n := a) (by omega) (fun fu j y hj hF => ?_) (fun fu y => ?_) y hy
  · have nle : ¬ nI a ≤ nI j := nI_ge hj (by omega)
    obtain ⟨B, i1, i2⟩ := G.fX (NF := NF) w1 g hF hj (rg_lt hk hj)
    refine ⟨B, i1, ?_⟩
    show gsX_X3_rotaCount_1_L1 NF (nI k) v (fu + 1) (nI (cntB (fun m => gvB (v1 26) (yI NF v1 (A24 f1) w1 g) (f 15) m (rg a k m)) j)) (nI j) v y = gsX_X3_rotaCount_1_L1 NF (nI k) v fu (nI (cntB (fun m => gvB (v1 26) (yI NF v1 (A24 f1) w1 g) (f 15) m (rg a k m)) (j + 1))) (nI (j + 1)) v B
    have wr : gsX_X1_wears_1 NF (nI (rg a k j)) v y = f 15 (6 + rg a k j) := (xWears1 a1 a3 (rg_lt hk hj)).trans (by rw [hF 15 (by decide) (by decide)])
    by_cases z : gvB (v1 26) (yI NF v1 (A24 f1) w1 g) (f 15) j (rg a k j) = true
    · rw [if_pos z] at i2
      rw [← cntB_1 (p := fun m => gvB (v1 26) (yI NF v1 (A24 f1) w1 g) (f 15) m (rg a k m)) z]
      conv => lhs; unfold gsX_X3_rotaCount_1_L1
      by_cases c : a ≤ j + k
      · have er : rg a k j = j + k - a := if_pos c
        rw [er] at wr i2
        simp only [a1, if_neg nle, nI_add, if_pos (nI_le c (show j + k < 2 ^ 31 by omega)), nI_subI c, wr, i2, ite11, if_true, nI_1]
      · have er : rg a k j = j + k := if_neg c
        rw [er] at wr i2
        simp only [a1, if_neg nle, nI_add, if_neg (nI_ge (show j + k < a by omega) (show a < 2 ^ 31 by omega)), wr, i2, ite11, if_true, nI_1]
    · rw [if_neg z] at i2
      rw [← cntB_0 (p := fun m => gvB (v1 26) (yI NF v1 (A24 f1) w1 g) (f 15) m (rg a k m)) z]
      conv => lhs; unfold gsX_X3_rotaCount_1_L1
      by_cases c : a ≤ j + k
      · have er : rg a k j = j + k - a := if_pos c
        rw [er] at wr i2
        simp only [a1, if_neg nle, nI_add, if_pos (nI_le c (show j + k < 2 ^ 31 by omega)), nI_subI c, wr, i2, ite01, nI_1]
      · have er : rg a k j = j + k := if_neg c
        rw [er] at wr i2
        simp only [a1, if_neg nle, nI_add, if_neg (nI_ge (show j + k < a by omega) (show a < 2 ^ 31 by omega)), wr, i2, ite01, nI_1]
  · show gsX_X3_rotaCount_1_L1 NF (nI k) v (fu + 1) _ (nI a) v y = _
    conv => lhs; unfold gsX_X3_rotaCount_1_L1
    simp only [a1]
    rw [if_pos (nI_le (Nat.le_refl _) (by omega))]
theorem GS.rotaX (G : GS v f v1 f1 a b) (w1 : Int64) (g : Nat → Int64) : ∃ (V : Nat → Int32) (y : Nat → Nat → Int32), V 26 = (rtS (rtC NF f v1 f1 w1 g a) a).1 ∧ V 27 = (rtS (rtC NF f v1 f1 w1 g a) a).2 ∧ gsX_X3_findRota_1 NF v f = (V, y) := by
  have a1 := G.1
  have a3 := G.2.2.1
  refine lpQ (S := SX) (fun fu i s => gsX_X3_findRota_1_L1 NF v fu i s.1 s.2) (fun r => ∃ (V : Nat → Int32) (y : Nat → Nat → Int32), V 26 = (rtS (rtC NF f v1 f1 w1 g a) a).1 ∧ V 27 = (rtS (rtC NF f v1 f1 w1 g a) a).2 ∧ r = (V, y)) (fun j s => (∀ k, k < 26 ∨ 30 < k → s.1 k = v k) ∧ s.1 26 = (rtS (rtC NF f v1 f1 w1 g a) j).1 ∧ s.1 27 = (rtS (rtC NF f v1 f1 w1 g a) j).2 ∧ (∀ q, q ≠ 13 → q ≠ 14 → s.2 q = f q)) a ?_ ?_ a 0 (4294967296 + NF) (upd (upd v 26 0) 27 (-1), f) (by omega) (by omega) ?_
  · rintro fu j ⟨V, y⟩ hj ⟨h1, h2, h3, h4⟩
    have h1 : ∀ k, k < 26 ∨ 30 < k → V k = v k := h1
    have h2 : V 26 = (rtS (rtC NF f v1 f1 w1 g a) j).1 := h2
    have h3 : V 27 = (rtS (rtC NF f v1 f1 w1 g a) j).2 := h3
    have h4 : ∀ q, q ≠ 13 → q ≠ 14 → y q = f q := h4
    have nle : ¬ nI a ≤ nI j := nI_ge hj (by omega)
    obtain ⟨y', i1, i2⟩ := (G.up h1).rotaC (NF := NF) w1 g hj h4
    have es : rtS (rtC NF f v1 f1 w1 g a) (j + 1) = (if nI (rtC NF f v1 f1 w1 g a j) ≤ (rtS (rtC NF f v1 f1 w1 g a) j).2 then rtS (rtC NF f v1 f1 w1 g a) j else (nI j, nI (rtC NF f v1 f1 w1 g a j))) := rfl
    by_cases z : nI (rtC NF f v1 f1 w1 g a j) ≤ (rtS (rtC NF f v1 f1 w1 g a) j).2
    · rw [if_pos z] at es
      refine Or.inl ⟨(V, y'), ⟨h1, ?_, ?_, i1⟩, ?_⟩
      · rw [es]; exact h2
      · rw [es]; exact h3
      · show gsX_X3_findRota_1_L1 NF v (fu + 1) (nI j) V y = gsX_X3_findRota_1_L1 NF v fu (nI (j + 1)) V y'
        conv => lhs; unfold gsX_X3_findRota_1_L1
        simp only [a1, if_neg nle, i2, h3, if_pos z, nI_1]
    · rw [if_neg z] at es
      refine Or.inl ⟨(upd (upd V 26 (nI j)) 27 (nI (rtC NF f v1 f1 w1 g a j)), y'), ⟨fun k hk => ?_, ?_, ?_, i1⟩, ?_⟩
      · show upd (upd V 26 (nI j)) 27 (nI (rtC NF f v1 f1 w1 g a j)) k = v k
        rw [ud_n (by omega), ud_n (by omega)]; exact h1 k hk
      · rw [es]
        show upd (upd V 26 (nI j)) 27 (nI (rtC NF f v1 f1 w1 g a j)) 26 = nI j
        rw [ud_n (by decide), ud_e]
      · rw [es]
        show upd (upd V 26 (nI j)) 27 (nI (rtC NF f v1 f1 w1 g a j)) 27 = nI (rtC NF f v1 f1 w1 g a j)
        rw [ud_e]
      · show gsX_X3_findRota_1_L1 NF v (fu + 1) (nI j) V y = gsX_X3_findRota_1_L1 NF v fu (nI (j + 1)) (upd (upd V 26 (nI j)) 27 (nI (rtC NF f v1 f1 w1 g a j))) y'
        conv => lhs; unfold gsX_X3_findRota_1_L1
        simp only [a1, if_neg nle, i2, h3, if_neg z, nI_1]
  · rintro fu ⟨V, y⟩ ⟨h1, h2, h3, h4⟩
    refine ⟨V, y, h2, h3, ?_⟩
    show gsX_X3_findRota_1_L1 NF v (fu + 1) (nI a) V y = (V, y)
    conv => lhs; unfold gsX_X3_findRota_1_L1
    simp only [a1]
    rw [if_pos (nI_le (Nat.le_refl _) (by omega))]
  · refine ⟨fun k hk => ?_, ?_, ?_, fun _ _ _ => rfl⟩
    · show upd (upd v 26 0) 27 (-1) k = v k
      rw [ud_n (by omega), ud_n (by omega)]
    · show upd (upd v 26 0) 27 (-1) 26 = 0
      rw [ud_n (by decide), ud_e]
    · show upd (upd v 26 0) 27 (-1) 27 = -1
      rw [ud_e]
theorem GS.rotaY19 (G : GS v f v1 f1 a b) {k : Nat} (hk : k < a) {F : Nat → Nat → Int32} (hF : ∀ q, q ≠ 7 → q ≠ 8 → q ≠ 24 → F q = f1 q) (hr : ∀ i, i < 39 → F 24 i = f1 23 i) (l2 l3 : Int32) (k7 : Int32 → Int32 → Int32 → (Nat → Int32) → (Nat → Nat → Int32) → Int64 → (Nat → Int64) → (Int32 × (Nat → Int32) × (Nat → Nat → Int32) × (Int64) × (Nat → Int64))) : ∃ F' : Nat → Nat → Int32, (∀ q, q ≠ 7 → q ≠ 8 → q ≠ 24 → F' q = f1 q) ∧ gsY_X11_rota_1_L19 NF v1 l2 l3 (nI k) k7 (4294967296 + NF) 0 v1 F w1 g = (if l3 < nI (rtC NF f v1 f1 w1 g a k) then k7 (nI k) (nI (rtC NF f v1 f1 w1 g a k)) (nI (k + 1)) v1 F' w1 g else k7 l2 l3 (nI (k + 1)) v1 F' w1 g) := by
  have a2 := G.2.1
  have a3 := G.2.2.1
  refine lpQ (S := Nat → Nat → Int32) (fun fu i s => gsY_X11_rota_1_L19 NF v1 l2 l3 (nI k) k7 fu i v1 s w1 g) (fun r => ∃ F' : Nat → Nat → Int32, (∀ q, q ≠ 7 → q ≠ 8 → q ≠ 24 → F' q = f1 q) ∧ r = (if l3 < nI (rtC NF f v1 f1 w1 g a k) then k7 (nI k) (nI (rtC NF f v1 f1 w1 g a k)) (nI (k + 1)) v1 F' w1 g else k7 l2 l3 (nI (k + 1)) v1 F' w1 g)) (fun j s => (∀ q, q ≠ 7 → q ≠ 8 → q ≠ 24 → s q = f1 q) ∧ (∀ m, m < j → s 24 (6 + m) = f1 23 (6 + rg a k m)) ∧ (∀ i, (i < 6 ∨ (12 ≤ i ∧ i < 39)) → s 24 i = f1 23 i)) a ?_ ?_ a 0 (4294967296 + NF) F (by omega) (by omega) ⟨hF, fun m hm => absurd hm (Nat.not_lt_zero _), fun i hi => hr i (by omega)⟩
  · rintro fu j s hj ⟨h1, h2, h3⟩
    have nle : ¬ nI a ≤ nI j := nI_ge hj (by omega)
    have k6 : (6 : Int32) + nI j = nI (6 + j) := nI_add 6 j
    have c6 : (nI (6 + j)).toNatClampNeg = 6 + j := nI_clamp (by omega)
    have r6 : (6 : Int32) + nI (rg a k j) = nI (6 + rg a k j) := nI_add 6 _
    have lt := rg_lt hk hj
    have cr : (nI (6 + rg a k j)).toNatClampNeg = 6 + rg a k j := nI_clamp (by omega)
    have md : nI (j + k) - nI (j + k) / nI a * nI a = nI (rg a k j) := by
      rw [nI_modI (by omega) (by omega), rg_mod hk hj]
    refine Or.inl ⟨upd2 s 24 (upd (s 24) (6 + j) (f1 23 (6 + rg a k j))), ⟨fun q z1 z2 z3 => ?_, fun m hm => ?_, fun i hi => ?_⟩, ?_⟩
    · rw [u2n z3]; exact h1 q z1 z2 z3
    · rw [u2_e]
      by_cases e : m = j
      · subst e; rw [ud_e]
      · rw [ud_n (by omega)]; exact h2 m (by omega)
    · rw [u2_e, ud_n (by omega)]; exact h3 i hi
    · show gsY_X11_rota_1_L19 NF v1 l2 l3 (nI k) k7 (fu + 1) (nI j) v1 s w1 g = gsY_X11_rota_1_L19 NF v1 l2 l3 (nI k) k7 fu (nI (j + 1)) v1 (upd2 s 24 (upd (s 24) (6 + j) (f1 23 (6 + rg a k j)))) w1 g
      conv => lhs; unfold gsY_X11_rota_1_L19
      simp only [a2, if_neg nle, nI_add, md, k6, c6, r6, cr, h1 23 (by decide) (by decide) (by decide), nI_1]
  · rintro fu s ⟨h1, h2, h3⟩
    obtain ⟨F', i1, i2, i3⟩ := G.fY (NF := NF) (w1 := w1) (g := g) (γ := rg a k) (fun m hm => rg_lt hk hm) h1 h2 h3
    refine ⟨F', i1, ?_⟩
    show gsY_X11_rota_1_L19 NF v1 l2 l3 (nI k) k7 (fu + 1) (nI a) v1 s w1 g = _
    conv => lhs; unfold gsY_X11_rota_1_L19
    simp only [a2, i2, i3, nI_1]
    rw [if_pos (nI_le (Nat.le_refl _) (by omega))]
    rfl
theorem GS.rotaY (G : GS v f v1 f1 a b) (p : Int32) : ∃ F' : Nat → Nat → Int32, gsY_X11_rota_1_L7 NF p v1 (4294967296 + NF) 0 (-1) 0 v1 f1 w1 g = ((if p = 0 then (rtS (rtC NF f v1 f1 w1 g a) a).1 else (rtS (rtC NF f v1 f1 w1 g a) a).2), v1, F', w1, g) := by
  have a2 := G.2.1
  have a3 := G.2.2.1
  refine lpQ (S := Int32 × Int32 × (Nat → Nat → Int32)) (fun fu i s => gsY_X11_rota_1_L7 NF p v1 fu s.1 s.2.1 i v1 s.2.2 w1 g) (fun r => ∃ F' : Nat → Nat → Int32, r = ((if p = 0 then (rtS (rtC NF f v1 f1 w1 g a) a).1 else (rtS (rtC NF f v1 f1 w1 g a) a).2), v1, F', w1, g)) (fun j s => s.1 = (rtS (rtC NF f v1 f1 w1 g a) j).1 ∧ s.2.1 = (rtS (rtC NF f v1 f1 w1 g a) j).2 ∧ (∀ q, q ≠ 7 → q ≠ 8 → q ≠ 24 → s.2.2 q = f1 q)) a ?_ ?_ a 0 (4294967296 + NF) (0, -1, f1) (by omega) (by omega) ⟨rfl, rfl, fun _ _ _ _ => rfl⟩
  · rintro fu j ⟨l2, l3, y⟩ hj ⟨h1, h2, h3⟩
    have h1 : l2 = (rtS (rtC NF f v1 f1 w1 g a) j).1 := h1
    have h2 : l3 = (rtS (rtC NF f v1 f1 w1 g a) j).2 := h2
    have h3 : ∀ q, q ≠ 7 → q ≠ 8 → q ≠ 24 → y q = f1 q := h3
    have nle : ¬ nI a ≤ nI j := nI_ge hj (by omega)
    obtain ⟨A, q1, q2, q3⟩ := yFill (NF := NF) (V := v1) (F0 := y) (W := w1) (G := g)
    have hA : ∀ q, q ≠ 7 → q ≠ 8 → q ≠ 24 → A q = f1 q := fun q z1 z2 z3 => (q1 q z3).trans (h3 q z1 z2 z3)
    have hr : ∀ i, i < 39 → A 24 i = f1 23 i := fun i hi => (q2 i hi).trans (by rw [h3 23 (by decide) (by decide) (by decide)])
    obtain ⟨F', i1, i2⟩ := G.rotaY19 (NF := NF) (w1 := w1) (g := g) hj hA hr l2 l3 (fun z0 z1 z2 z3 z4 z5 z6 => gsY_X11_rota_1_L7 NF p v1 fu z0 z1 z2 z3 z4 z5 z6)
    have es : rtS (rtC NF f v1 f1 w1 g a) (j + 1) = (if nI (rtC NF f v1 f1 w1 g a j) ≤ (rtS (rtC NF f v1 f1 w1 g a) j).2 then rtS (rtC NF f v1 f1 w1 g a) j else (nI j, nI (rtC NF f v1 f1 w1 g a j))) := rfl
    by_cases z : nI (rtC NF f v1 f1 w1 g a j) ≤ (rtS (rtC NF f v1 f1 w1 g a) j).2
    · rw [if_pos z] at es
      have z' : ¬ l3 < nI (rtC NF f v1 f1 w1 g a j) := fun q => by
        rw [h2] at q
        have q1 := (fa_lt _ _).mp q
        have q2 := (fa_le _ _).mp z
        omega
      rw [if_neg z'] at i2
      refine Or.inl ⟨(l2, l3, F'), ⟨?_, ?_, i1⟩, ?_⟩
      · rw [es]; exact h1
      · rw [es]; exact h2
      · show gsY_X11_rota_1_L7 NF p v1 (fu + 1) l2 l3 (nI j) v1 y w1 g = gsY_X11_rota_1_L7 NF p v1 fu l2 l3 (nI (j + 1)) v1 F' w1 g
        conv => lhs; unfold gsY_X11_rota_1_L7
        simp only [a2, if_neg nle, q3, i2]
    · rw [if_neg z] at es
      have z' : l3 < nI (rtC NF f v1 f1 w1 g a j) := by rw [h2]; exact lt_of_nle z
      rw [if_pos z'] at i2
      refine Or.inl ⟨(nI j, nI (rtC NF f v1 f1 w1 g a j), F'), ⟨?_, ?_, i1⟩, ?_⟩
      · rw [es]
      · rw [es]
      · show gsY_X11_rota_1_L7 NF p v1 (fu + 1) l2 l3 (nI j) v1 y w1 g = gsY_X11_rota_1_L7 NF p v1 fu (nI j) (nI (rtC NF f v1 f1 w1 g a j)) (nI (j + 1)) v1 F' w1 g
        conv => lhs; unfold gsY_X11_rota_1_L7
        simp only [a2, if_neg nle, q3, i2]
  · rintro fu ⟨l2, l3, y⟩ ⟨h1, h2, h3⟩
    have h1 : l2 = (rtS (rtC NF f v1 f1 w1 g a) a).1 := h1
    have h2 : l3 = (rtS (rtC NF f v1 f1 w1 g a) a).2 := h2
    refine ⟨y, ?_⟩
    show gsY_X11_rota_1_L7 NF p v1 (fu + 1) l2 l3 (nI a) v1 y w1 g = _
    conv => lhs; unfold gsY_X11_rota_1_L7
    simp only [a2]
    rw [if_pos (nI_le (Nat.le_refl _) (by omega)), h1, h2]
    split <;> rfl
theorem FREL.rota (h : FREL v f v1 f1) {p : Int32} (e : gsX_X10_rota_1 NF p v f = (r, u)) (e' : gsY_X11_rota_1 NF p v1 f1 w1 g = (r', u')) : r = r' := by
  obtain ⟨a, b, G⟩ := h.gs
  have a1 := G.1
  have a2 := G.2.1
  have a3 := G.2.2.1
  by_cases c2 : p < 0
  · simp only [gsX_X10_rota_1, if_pos c2] at e
    simp only [gsY_X11_rota_1, gsY_X11_isIn_1, if_pos c2, ite01] at e'
    cases e'
    by_cases c0 : v 31 = 0
    · rw [if_pos c0] at e; cases e; rfl
    · rw [if_neg c0] at e; cases e; rfl
  · by_cases c3 : p ≤ 1
    · have c3' : ¬ (1 : Int32) < p := fun z => by
        have z1 := (fa_lt _ _).mp z
        have z2 := (fa_le _ _).mp c3
        omega
      by_cases c0 : nI a = 0
      · simp only [gsX_X10_rota_1, a1, if_pos c0] at e
        simp only [gsY_X11_rota_1, gsY_X11_isIn_1, if_neg c2, if_neg c3', ite11, if_true, a2, if_pos c0] at e'
        cases e; cases e'
        rfl
      · obtain ⟨V, y, x1, x2, x3⟩ := G.rotaX (NF := NF) w1 g
        obtain ⟨F', y1⟩ := G.rotaY (NF := NF) (w1 := w1) (g := g) p
        simp only [gsX_X10_rota_1, a1, if_neg c0, if_neg c2, if_pos c3, x3, x1, x2] at e
        simp only [gsY_X11_rota_1, gsY_X11_isIn_1, if_neg c2, if_neg c3', ite11, if_true, a2, if_neg c0, y1] at e'
        cases e'
        by_cases c4 : p = 0
        · rw [if_pos c4] at e ⊢; cases e; rfl
        · rw [if_neg c4] at e ⊢; cases e; rfl
    · have c3' : (1 : Int32) < p := lt_of_nle c3
      simp only [gsX_X10_rota_1, if_neg c2, if_neg c3] at e
      simp only [gsY_X11_rota_1, gsY_X11_isIn_1, if_neg c2, if_pos c3', ite01] at e'
      cases e'
      by_cases c0 : v 31 = 0
      · rw [if_pos c0] at e; cases e; rfl
      · rw [if_neg c0] at e; cases e; rfl
end
end
section
section
variable {NF : Nat}
theorem lsY {x y : Nat} (hx : x < 2 ^ 31) (hy : y < 2 ^ 31) {V : Nat → Int32} {F : Nat → Nat → Int32} {W : Int64} {K : Nat → Int64} : gsY_X11_lesser_1 NF (nI x) (nI y) V F W K = nI (min x y) := by
  simp only [gsY_X11_lesser_1]
  by_cases c : y ≤ x
  · rw [if_pos (nI_le c hx), show min x y = y by omega]
  · rw [if_neg (nI_ge (by omega) hy), show min x y = x by omega]
theorem grY {x y : Nat} (hx : x < 2 ^ 31) (hy : y < 2 ^ 31) {V : Nat → Int32} {F : Nat → Nat → Int32} {W : Int64} {K : Nat → Int64} : gsY_X11_greater_1 NF (nI x) (nI y) V F W K = nI (max x y) := by
  simp only [gsY_X11_greater_1]
  by_cases c : x ≤ y
  · rw [if_pos (nI_le c hy), show max x y = y by omega]
  · rw [if_neg (nI_ge (by omega) hx), show max x y = x by omega]
end
end
