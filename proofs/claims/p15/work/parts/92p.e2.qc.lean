section
def QC (NF : Nat) (v : Nat → Int32) (f : Nat → Nat → Int32) (v1 : Nat → Int32) (f1 : Nat → Nat → Int32) (w1 : Int64) (g : Nat → Int64) (a b : Nat) (A : Nat → Nat → Int32) (R : Nat → Nat → Int32) : Prop := (v 31 = nI a) ∧ (v1 24 = nI a) ∧ (a ≤ 6) ∧ (v 32 = nI b) ∧ (v1 25 = nI b) ∧ (b ≤ 6) ∧ (STM f f1 a) ∧ (v 33 = v1 26) ∧ (NWR 999 a b (f 15) (A 24)) ∧ (∀ q, q ≠ 24 → A q = f1 q) ∧ (gsY_X11_fill_1 NF v1 f1 w1 g = (v1, A, w1, g)) ∧ (∀ y : Nat → Nat → Int32, (∀ q, q ≠ 13 → q ≠ 14 → y q = f q) → ∀ m c, m < a → c < b → ∃ y' : Nat → Nat → Int32, (∀ q, q ≠ 13 → q ≠ 14 → y' q = f q) ∧ gsX_X1_illness_1 NF (nI m) (nI c) v y = (R m c, v, y') ∧ gsX_X1_fits_1 NF (nI m) (nI c) v y = ((if v 33 < R m c then 0 else 1), v, y')) ∧ (∀ z : Nat → Nat → Int32, (∀ q, q ≠ 7 → q ≠ 8 → z q = A q) → ∀ m c, m < a → c < b → ∃ z' : Nat → Nat → Int32, (∀ q, q ≠ 7 → q ≠ 8 → z' q = A q) ∧ gsY_X11_misfitOf_1 NF (nI m) (nI c) v1 z w1 g = (R m c, v1, z', w1, g) ∧ gsY_X11_fits_1 NF (nI m) (nI c) v1 z w1 g = ((if v 33 < R m c then 0 else 1), v1, z', w1, g)) ∧ (∀ m c, m < a → c < b → 0 ≤ R m c ∧ R m c ≤ 999)
theorem QC.a1 {NF : Nat} {v : Nat → Int32} {f : Nat → Nat → Int32} {v1 : Nat → Int32} {f1 : Nat → Nat → Int32} {w1 : Int64} {g : Nat → Int64} {a b : Nat} {A : Nat → Nat → Int32} {R : Nat → Nat → Int32} (h : QC NF v f v1 f1 w1 g a b A R) : v 31 = nI a := h.1
theorem QC.a2 {NF : Nat} {v : Nat → Int32} {f : Nat → Nat → Int32} {v1 : Nat → Int32} {f1 : Nat → Nat → Int32} {w1 : Int64} {g : Nat → Int64} {a b : Nat} {A : Nat → Nat → Int32} {R : Nat → Nat → Int32} (h : QC NF v f v1 f1 w1 g a b A R) : v1 24 = nI a := h.2.1
theorem QC.a3 {NF : Nat} {v : Nat → Int32} {f : Nat → Nat → Int32} {v1 : Nat → Int32} {f1 : Nat → Nat → Int32} {w1 : Int64} {g : Nat → Int64} {a b : Nat} {A : Nat → Nat → Int32} {R : Nat → Nat → Int32} (h : QC NF v f v1 f1 w1 g a b A R) : a ≤ 6 := h.2.2.1
theorem QC.b1 {NF : Nat} {v : Nat → Int32} {f : Nat → Nat → Int32} {v1 : Nat → Int32} {f1 : Nat → Nat → Int32} {w1 : Int64} {g : Nat → Int64} {a b : Nat} {A : Nat → Nat → Int32} {R : Nat → Nat → Int32} (h : QC NF v f v1 f1 w1 g a b A R) : v 32 = nI b := h.2.2.2.1
theorem QC.b2 {NF : Nat} {v : Nat → Int32} {f : Nat → Nat → Int32} {v1 : Nat → Int32} {f1 : Nat → Nat → Int32} {w1 : Int64} {g : Nat → Int64} {a b : Nat} {A : Nat → Nat → Int32} {R : Nat → Nat → Int32} (h : QC NF v f v1 f1 w1 g a b A R) : v1 25 = nI b := h.2.2.2.2.1
theorem QC.b3 {NF : Nat} {v : Nat → Int32} {f : Nat → Nat → Int32} {v1 : Nat → Int32} {f1 : Nat → Nat → Int32} {w1 : Int64} {g : Nat → Int64} {a b : Nat} {A : Nat → Nat → Int32} {R : Nat → Nat → Int32} (h : QC NF v f v1 f1 w1 g a b A R) : b ≤ 6 := h.2.2.2.2.2.1
theorem QC.sm {NF : Nat} {v : Nat → Int32} {f : Nat → Nat → Int32} {v1 : Nat → Int32} {f1 : Nat → Nat → Int32} {w1 : Int64} {g : Nat → Int64} {a b : Nat} {A : Nat → Nat → Int32} {R : Nat → Nat → Int32} (h : QC NF v f v1 f1 w1 g a b A R) : STM f f1 a := h.2.2.2.2.2.2.1
theorem QC.es {NF : Nat} {v : Nat → Int32} {f : Nat → Nat → Int32} {v1 : Nat → Int32} {f1 : Nat → Nat → Int32} {w1 : Int64} {g : Nat → Int64} {a b : Nat} {A : Nat → Nat → Int32} {R : Nat → Nat → Int32} (h : QC NF v f v1 f1 w1 g a b A R) : v 33 = v1 26 := h.2.2.2.2.2.2.2.1
theorem QC.nw {NF : Nat} {v : Nat → Int32} {f : Nat → Nat → Int32} {v1 : Nat → Int32} {f1 : Nat → Nat → Int32} {w1 : Int64} {g : Nat → Int64} {a b : Nat} {A : Nat → Nat → Int32} {R : Nat → Nat → Int32} (h : QC NF v f v1 f1 w1 g a b A R) : NWR 999 a b (f 15) (A 24) := h.2.2.2.2.2.2.2.2.1
theorem QC.fA {NF : Nat} {v : Nat → Int32} {f : Nat → Nat → Int32} {v1 : Nat → Int32} {f1 : Nat → Nat → Int32} {w1 : Int64} {g : Nat → Int64} {a b : Nat} {A : Nat → Nat → Int32} {R : Nat → Nat → Int32} (h : QC NF v f v1 f1 w1 g a b A R) : ∀ q, q ≠ 24 → A q = f1 q := h.2.2.2.2.2.2.2.2.2.1
theorem QC.fl {NF : Nat} {v : Nat → Int32} {f : Nat → Nat → Int32} {v1 : Nat → Int32} {f1 : Nat → Nat → Int32} {w1 : Int64} {g : Nat → Int64} {a b : Nat} {A : Nat → Nat → Int32} {R : Nat → Nat → Int32} (h : QC NF v f v1 f1 w1 g a b A R) : gsY_X11_fill_1 NF v1 f1 w1 g = (v1, A, w1, g) := h.2.2.2.2.2.2.2.2.2.2.1
theorem QC.fX {NF : Nat} {v : Nat → Int32} {f : Nat → Nat → Int32} {v1 : Nat → Int32} {f1 : Nat → Nat → Int32} {w1 : Int64} {g : Nat → Int64} {a b : Nat} {A : Nat → Nat → Int32} {R : Nat → Nat → Int32} (h : QC NF v f v1 f1 w1 g a b A R) : ∀ y : Nat → Nat → Int32, (∀ q, q ≠ 13 → q ≠ 14 → y q = f q) → ∀ m c, m < a → c < b → ∃ y' : Nat → Nat → Int32, (∀ q, q ≠ 13 → q ≠ 14 → y' q = f q) ∧ gsX_X1_illness_1 NF (nI m) (nI c) v y = (R m c, v, y') ∧ gsX_X1_fits_1 NF (nI m) (nI c) v y = ((if v 33 < R m c then 0 else 1), v, y') := h.2.2.2.2.2.2.2.2.2.2.2.1
theorem QC.fY {NF : Nat} {v : Nat → Int32} {f : Nat → Nat → Int32} {v1 : Nat → Int32} {f1 : Nat → Nat → Int32} {w1 : Int64} {g : Nat → Int64} {a b : Nat} {A : Nat → Nat → Int32} {R : Nat → Nat → Int32} (h : QC NF v f v1 f1 w1 g a b A R) : ∀ z : Nat → Nat → Int32, (∀ q, q ≠ 7 → q ≠ 8 → z q = A q) → ∀ m c, m < a → c < b → ∃ z' : Nat → Nat → Int32, (∀ q, q ≠ 7 → q ≠ 8 → z' q = A q) ∧ gsY_X11_misfitOf_1 NF (nI m) (nI c) v1 z w1 g = (R m c, v1, z', w1, g) ∧ gsY_X11_fits_1 NF (nI m) (nI c) v1 z w1 g = ((if v 33 < R m c then 0 else 1), v1, z', w1, g) := h.2.2.2.2.2.2.2.2.2.2.2.2.1
theorem QC.rg {NF : Nat} {v : Nat → Int32} {f : Nat → Nat → Int32} {v1 : Nat → Int32} {f1 : Nat → Nat → Int32} {w1 : Int64} {g : Nat → Int64} {a b : Nat} {A : Nat → Nat → Int32} {R : Nat → Nat → Int32} (h : QC NF v f v1 f1 w1 g a b A R) : ∀ m c, m < a → c < b → 0 ≤ R m c ∧ R m c ≤ 999 := h.2.2.2.2.2.2.2.2.2.2.2.2.2
theorem FREL.qc {NF : Nat} {v : Nat → Int32} {f : Nat → Nat → Int32} {v1 : Nat → Int32} {f1 : Nat → Nat → Int32} (h : FREL v f v1 f1) (w1 : Int64) (g : Nat → Int64) : ∃ (a b : Nat) (A : Nat → Nat → Int32) (R : Nat → Nat → Int32), QC NF v f v1 f1 w1 g a b A R := by
  obtain ⟨hr, a, b, a1, a2, a3, b1, b2, b3, sm, sc, nw, ac, bx⟩ := h
  obtain ⟨A, q1, q2, q3⟩ := yFill (NF := NF) (V := v1) (F0 := f1) (W := w1) (G := g)
  have sf := hr.2.1.2.2
  have es := hr.2.1.2.1.1
  have nA : NWR 999 a b (f 15) (A 24) := nw.cg a3 b3 (fun _ _ => rfl) (fun k hk => q2 k hk)
  refine ⟨a, b, A, yI NF v1 A w1 g, a1, a2, a3, b1, b2, b3, sm, es, nA, q1, q3, fun y hy m c hm hc => ?_, fun z hz m c hm hc => ?_, fun m c hm hc => ?_⟩
  · obtain ⟨F', i1, i2, i3⟩ := fitX1 (NF := NF) (F := y) (F1 := A) (v1 := v1) (w1 := w1) (g := g) a1 a3 b1 b3 sm sf (show 999 ≤ 9999 by decide) (fun q hq => hy q (by omega) (by omega)) (fun q hq => q1 q (by omega)) (by rw [hy 15 (by decide) (by decide)]; exact nA.cms) hm hc
    exact ⟨F', fun q z1 z2 => (i3 q z1 z2).trans (hy q z1 z2), i1, i2⟩
  · obtain ⟨F', i1, i2, i3, _⟩ := illY (NF := NF) (F1 := A) (F2 := z) (w1 := w1) (g := g) a1 a3 b1 b3 sm sf (show 999 ≤ 9999 by decide) (fun q hq => q1 q (by omega)) (fun q hq => (hz q (by omega) (by omega)).trans (q1 q (by omega))) nA.cms (by rw [hz 24 (by decide) (by decide)]; exact nA.cms) hm hc
    rw [← es] at i2
    exact ⟨F', fun q z1 z2 => (i3 q z1 z2).trans (hz q z1 z2), i1, i2⟩
  · obtain ⟨F', _, _, _, i4⟩ := illY (NF := NF) (F1 := A) (F2 := A) (w1 := w1) (g := g) a1 a3 b1 b3 sm sf (show 999 ≤ 9999 by decide) (fun q hq => q1 q (by omega)) (fun q hq => q1 q (by omega)) nA.cms nA.cms hm hc
    exact i4
theorem accX {NF n : Nat} {v : Nat → Int32} {f : Nat → Nat → Int32} {L : Nat → Int32 → Int32 → (Nat → Int32) → (Nat → Nat → Int32) → Int32 × (Nat → Int32) × (Nat → Nat → Int32)} (S : Nat → Int32) (hn : n < 4294967296) (h1 : ∀ fu j y, j < n → (∀ q, q ≠ 13 → q ≠ 14 → y q = f q) → ∃ y' : Nat → Nat → Int32, (∀ q, q ≠ 13 → q ≠ 14 → y' q = f q) ∧ L (fu + 1) (S j) (nI j) v y = L fu (S (j + 1)) (nI (j + 1)) v y') (h2 : ∀ fu y, L (fu + 1) (S n) (nI n) v y = (S n, v, y)) (y0 : Nat → Nat → Int32) (hy : ∀ q, q ≠ 13 → q ≠ 14 → y0 q = f q) : ∃ y' : Nat → Nat → Int32, (∀ q, q ≠ 13 → q ≠ 14 → y' q = f q) ∧ L (4294967296 + NF) (S 0) (nI 0) v y0 = (S n, v, y') := by
  refine lpQ (S := Int32 × SX) (fun fu i s => L fu s.1 i s.2.1 s.2.2) (fun r => ∃ y' : Nat → Nat → Int32, (∀ q, q ≠ 13 → q ≠ 14 → y' q = f q) ∧ r = (S n, v, y')) (fun j s => ∃ y' : Nat → Nat → Int32, s = (S j, v, y') ∧ (∀ q, q ≠ 13 → q ≠ 14 → y' q = f q)) n ?_ ?_ n 0 (4294967296 + NF) (S 0, v, y0) (by omega) (by omega) ⟨y0, rfl, hy⟩
  · intro fu j s hj hs
    obtain ⟨y, rfl, hF⟩ := hs
    obtain ⟨y', q1, q2⟩ := h1 fu j y hj hF
    exact Or.inl ⟨(S (j + 1), v, y'), ⟨y', rfl, q1⟩, q2⟩
  · intro fu s hs
    obtain ⟨y, rfl, hF⟩ := hs
    exact ⟨y, hF, h2 fu y⟩
theorem accY {NF n : Nat} {v1 : Nat → Int32} {A : Nat → Nat → Int32} {w1 : Int64} {g : Nat → Int64} {L : Nat → Int32 → Int32 → (Nat → Int32) → (Nat → Nat → Int32) → Int64 → (Nat → Int64) → Int32 × (Nat → Int32) × (Nat → Nat → Int32) × Int64 × (Nat → Int64)} (S : Nat → Int32) (hn : n < 4294967296) (h1 : ∀ fu j y, j < n → (∀ q, q ≠ 7 → q ≠ 8 → y q = A q) → ∃ y' : Nat → Nat → Int32, (∀ q, q ≠ 7 → q ≠ 8 → y' q = A q) ∧ L (fu + 1) (S j) (nI j) v1 y w1 g = L fu (S (j + 1)) (nI (j + 1)) v1 y' w1 g) (h2 : ∀ fu y, L (fu + 1) (S n) (nI n) v1 y w1 g = (S n, v1, y, w1, g)) (y0 : Nat → Nat → Int32) (hy : ∀ q, q ≠ 7 → q ≠ 8 → y0 q = A q) : ∃ y' : Nat → Nat → Int32, (∀ q, q ≠ 7 → q ≠ 8 → y' q = A q) ∧ L (4294967296 + NF) (S 0) (nI 0) v1 y0 w1 g = (S n, v1, y', w1, g) := by
  refine lpQ (S := Int32 × SY) (fun fu i s => L fu s.1 i s.2.1 s.2.2.1 s.2.2.2.1 s.2.2.2.2) (fun r => ∃ y' : Nat → Nat → Int32, (∀ q, q ≠ 7 → q ≠ 8 → y' q = A q) ∧ r = (S n, v1, y', w1, g)) (fun j s => ∃ y' : Nat → Nat → Int32, s = (S j, v1, y', w1, g) ∧ (∀ q, q ≠ 7 → q ≠ 8 → y' q = A q)) n ?_ ?_ n 0 (4294967296 + NF) (S 0, v1, y0, w1, g) (by omega) (by omega) ⟨y0, rfl, hy⟩
  · intro fu j s hj hs
    obtain ⟨y, rfl, hF⟩ := hs
    obtain ⟨y', q1, q2⟩ := h1 fu j y hj hF
    exact Or.inl ⟨(S (j + 1), v1, y', w1, g), ⟨y', rfl, q1⟩, q2⟩
  · intro fu s hs
    obtain ⟨y, rfl, hF⟩ := hs
    exact ⟨y, hF, h2 fu y⟩
theorem acc0 {NF n : Nat} {L : Nat → Int32 → Int32 → Int32} (S : Nat → Int32) (hn : n < 4294967296) (h1 : ∀ fu j, j < n → L (fu + 1) (S j) (nI j) = L fu (S (j + 1)) (nI (j + 1))) (h2 : ∀ fu, L (fu + 1) (S n) (nI n) = S n) : L (4294967296 + NF) (S 0) (nI 0) = S n := by
  refine lpQ (S := Int32) (fun fu i s => L fu s i) (fun r => r = S n) (fun j s => s = S j) n ?_ ?_ n 0 (4294967296 + NF) (S 0) (by omega) (by omega) rfl
  · intro fu j s hj hs
    have hs : s = S j := hs
    subst hs
    exact Or.inl ⟨S (j + 1), rfl, h1 fu j hj⟩
  · intro fu s hs
    have hs : s = S n := hs
    subst hs
    exact h2 fu
def cntB (p : Nat → Bool) : Nat → Nat
  | 0 => 0
  | n + 1 => cntB p n + (if p n = true then 1 else 0)
theorem cntB_le (p : Nat → Bool) : ∀ n, cntB p n ≤ n := by
  intro n
  induction n with
  | zero => exact Nat.le_refl _
  | succ n ih =>
    show cntB p n + (if p n = true then 1 else 0) ≤ n + 1
    by_cases c : p n = true
    · rw [if_pos c]; omega
    · rw [if_neg c]; omega
theorem cntB_1 {p : Nat → Bool} {n : Nat} (h : p n = true) : nI (cntB p n) + 1 = nI (cntB p (n + 1)) := by
  show _ = nI (cntB p n + (if p n = true then 1 else 0))
  rw [if_pos h, nI_1]
theorem cntB_0 {p : Nat → Bool} {n : Nat} (h : ¬ p n = true) : nI (cntB p n) = nI (cntB p (n + 1)) := by
  show _ = nI (cntB p n + (if p n = true then 1 else 0))
  rw [if_neg h, Nat.add_zero]
theorem nI_add0 (n : Nat) : nI n + 0 = nI n := nI_add n 0
def fB (e : Int32) (R : Nat → Nat → Int32) (m c : Nat) : Bool := decide (¬ e < R m c)
theorem fB_1 {e : Int32} {R : Nat → Nat → Int32} {m c : Nat} (h : ¬ e < R m c) : fB e R m c = true := decide_eq_true h
theorem fB_0 {e : Int32} {R : Nat → Nat → Int32} {m c : Nat} (h : e < R m c) : ¬ fB e R m c = true := by
  unfold fB
  rw [decide_eq_false (fun q => q h)]
  decide
end
