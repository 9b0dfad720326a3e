theorem shl01_rng {x c : Int32} (h0 : 0 ≤ x.toInt) (h9 : x.toInt ≤ 1) (h1 : 0 ≤ c.toInt) (h2 : c.toInt ≤ 5) : 0 ≤ (x <<< (c &&& 31)).toInt ∧ (x <<< (c &&& 31)).toInt ≤ 32 := by
  rcases b01 h0 h9 with e | e
  · rw [e]; have := shl1_rng h1 h2; omega
  · rw [e]
    rcases (show c.toInt = 0 ∨ c.toInt = 1 ∨ c.toInt = 2 ∨ c.toInt = 3 ∨ c.toInt = 4 ∨ c.toInt = 5 by omega) with h | h | h | h | h | h
    · rw [show c = 0 from Int32.toInt_inj.mp h]; decide
    · rw [show c = 1 from Int32.toInt_inj.mp h]; decide
    · rw [show c = 2 from Int32.toInt_inj.mp h]; decide
    · rw [show c = 3 from Int32.toInt_inj.mp h]; decide
    · rw [show c = 4 from Int32.toInt_inj.mp h]; decide
    · rw [show c = 5 from Int32.toInt_inj.mp h]; decide
theorem shl1_rng6 {c : Int32} (h1 : 0 ≤ c.toInt) (h2 : c.toInt ≤ 6) : 1 ≤ ((1 : Int32) <<< (c &&& 31)).toInt ∧ ((1 : Int32) <<< (c &&& 31)).toInt ≤ 64 := by
  rcases (show c.toInt ≤ 5 ∨ c.toInt = 6 by omega) with h | h
  · have := shl1_rng h1 h; omega
  · rw [show c = 6 from Int32.toInt_inj.mp h]; decide
theorem and_left {x y : Int32} (h1 : 0 ≤ x.toInt) (h2 : x.toInt ≤ 63) : 0 ≤ (x &&& y).toInt ∧ (x &&& y).toInt ≤ 63 := by
  obtain ⟨a, ha, rfl⟩ := nI_ofI h1
  rw [nI_toInt ha] at h2
  have e : nI a &&& y = nI ((nI a &&& y).toBitVec.toNat) := by
    apply Int32.toBitVec_inj.mp
    show (nI a &&& y).toBitVec = BitVec.ofNat 32 ((nI a &&& y).toBitVec.toNat)
    rw [BitVec.ofNat_toNat, BitVec.setWidth_eq]
  have l : (nI a &&& y).toBitVec.toNat ≤ a := by
    show ((nI a).toBitVec &&& y.toBitVec).toNat ≤ a
    rw [BitVec.toNat_and, pk_tn (by omega)]
    exact Nat.and_le_left
  rw [e, nI_toInt (by omega)]
  omega

def cntNB (o : Nat → Int32) : Nat → Int
  | 0 => 0
  | n + 1 => cntNB o n + (if o n = 20 then 1 else if o n = 21 then 1 else 0)
theorem cnt_rng (o : Nat → Int32) : ∀ n, 0 ≤ cntNB o n ∧ cntNB o n ≤ n
  | 0 => ⟨Int.le_refl 0, Int.le_refl 0⟩
  | n + 1 => by
    have ih := cnt_rng o n
    show 0 ≤ cntNB o n + (if o n = 20 then 1 else if o n = 21 then 1 else 0) ∧ cntNB o n + (if o n = 20 then 1 else if o n = 21 then 1 else 0) ≤ ((n + 1 : Nat) : Int)
    by_cases c : o n = 20
    · rw [if_pos c]; omega
    · rw [if_neg c]
      by_cases c2 : o n = 21
      · rw [if_pos c2]; omega
      · rw [if_neg c2]; omega
theorem upd_ne {g : Nat → Int32} {n k : Nat} {x : Int32} (h : ¬ k = n) : upd g n x k = g k := if_neg h
theorem upd_eq {g : Nat → Int32} {n : Nat} {x : Int32} : upd g n x n = x := if_pos rfl
theorem cnt_upd (o : Nat → Int32) (n : Nat) (x : Int32) : ∀ k, k ≤ n → cntNB (upd o n x) k = cntNB o k
  | 0, _ => rfl
  | k + 1, h => by
    show cntNB (upd o n x) k + (if upd o n x k = 20 then 1 else if upd o n x k = 21 then 1 else 0) = cntNB o k + (if o k = 20 then 1 else if o k = 21 then 1 else 0)
    rw [cnt_upd o n x k (by omega), upd_ne (show ¬ k = n by omega)]
theorem dp_upd (o : Nat → Int32) (n : Nat) (x : Int32) : ∀ k, k ≤ n → dpF (upd o n x) k = dpF o k
  | 0, _ => rfl
  | k + 1, h => by
    show dpF (upd o n x) k + (if upd o n x k = 0 then 1 else if upd o n x k = 1 then 1 else if upd o n x k = 2 then 0 else -1) = dpF o k + (if o k = 0 then 1 else if o k = 1 then 1 else if o k = 2 then 0 else -1)
    rw [dp_upd o n x k (by omega), upd_ne (show ¬ k = n by omega)]
theorem prog_add {st ar : Nat → Int32} {n : Nat} {x y : Int32} (h : progOK st ar n) (hx : (x = 0 → dpF st n ≤ 63) ∧ (x = 1 → dpF st n ≤ 63 ∧ 0 ≤ y.toInt ∧ y.toInt ≤ 5) ∧ (x = 2 → 1 ≤ dpF st n) ∧ (¬ x = 0 → ¬ x = 1 → ¬ x = 2 → 2 ≤ dpF st n)) : progOK (upd st n x) (upd ar n y) (n + 1) := by
  intro s hs
  rw [dp_upd st n x s (by omega)]
  by_cases c : s = n
  · rw [c, upd_eq, upd_eq]; exact hx
  · rw [upd_ne c, upd_ne c]; exact h s (by omega)
/-- the formula under way: what waits, what is done -/
def FI (x op d m : Int) (o st ar : Nat → Int32) : Prop := 0 ≤ op ∧ 0 ≤ m ∧ cntNB o op.toNat = d ∧ dpF st m.toNat = op - d + x ∧ progOK st ar m.toNat
theorem FI.cast {x op d m op' d' m' : Int} {o st ar : Nat → Int32} (h : FI x op d m o st ar) (e1 : op' = op) (e2 : d' = d) (e3 : m' = m) : FI x op' d' m' o st ar := by rw [e1, e2, e3]; exact h
theorem FI.nn {x op d m : Int} {o st ar : Nat → Int32} (h : FI x op d m o st ar) : 0 ≤ d := by
  have := cnt_rng o op.toNat
  obtain ⟨_, _, h3, _, _⟩ := h
  omega
theorem FI.zero {op d m : Int} {o st ar : Nat → Int32} (e1 : op = 0) (e2 : d = 0) (e3 : m = 0) : FI 0 op d m o st ar := by
  rw [e1, e2, e3]
  exact ⟨Int.le_refl 0, Int.le_refl 0, rfl, rfl, fun s hs => absurd hs (Nat.not_lt_zero _)⟩
theorem FI.prog {x op d m m' : Int} {o st ar : Nat → Int32} (h : FI x op d m o st ar) (e : m' = m) : progOK st ar m'.toNat := by rw [e]; exact h.2.2.2.2
theorem prog_n {st ar : Nat → Int32} {m m' : Int} (h : progOK st ar m.toNat) (e : m' = m) : progOK st ar m'.toNat := by rw [e]; exact h
theorem prog_0 {st ar : Nat → Int32} {m : Int} (e : m = 0) : progOK st ar m.toNat := by rw [e]; exact fun s hs => absurd hs (Nat.not_lt_zero _)
theorem FI.push {op d m op' d' m' : Int} {o o' st ar : Nat → Int32} {j : Nat} {w : Int32} (h : FI 0 op d m o st ar) (ho : o' = upd o j w) (hj : (j : Int) = op) (hw : w = 20 ∨ w = 21) (e1 : op' = op + 1) (e2 : d' = d + 1) (e3 : m' = m) : FI 0 op' d' m' o' st ar := by
  obtain ⟨h1, h2, h3, h4, h5⟩ := h
  refine ⟨by omega, by omega, ?_, by rw [e3]; omega, by rw [e3]; exact h5⟩
  rw [show op'.toNat = j + 1 by omega, ho]
  show cntNB (upd o j w) j + (if upd o j w j = 20 then 1 else if upd o j w j = 21 then 1 else 0) = d'
  rw [cnt_upd o j w j (Nat.le_refl _), upd_eq, show j = op.toNat by omega, h3]
  rcases hw with c | c <;> rw [c] <;> (rw [e2]; rfl)
theorem FI.sign {op d m op' d' m' : Int} {o o' st ar : Nat → Int32} {j : Nat} {s : Int32} (h : FI 1 op d m o st ar) (ho : o' = upd o j s) (hj : (j : Int) = op) (n20 : ¬ s.toInt = 20) (n21 : ¬ s.toInt = 21) (e1 : op' = op + 1) (e2 : d' = d) (e3 : m' = m) : FI 0 op' d' m' o' st ar := by
  obtain ⟨h1, h2, h3, h4, h5⟩ := h
  have c0 : ¬ s = 20 := fun q => n20 (by rw [q]; decide)
  have c1 : ¬ s = 21 := fun q => n21 (by rw [q]; decide)
  refine ⟨by omega, by omega, ?_, by rw [e3]; omega, by rw [e3]; exact h5⟩
  rw [show op'.toNat = j + 1 by omega, ho]
  show cntNB (upd o j s) j + (if upd o j s j = 20 then 1 else if upd o j s j = 21 then 1 else 0) = d'
  rw [cnt_upd o j s j (Nat.le_refl _), upd_eq, if_neg c0, if_neg c1, show j = op.toNat by omega, h3]
  omega
theorem FI.unit {op d m op' d' m' : Int} {o st ar st' ar' : Nat → Int32} {j : Nat} {k y : Int32} (h : FI 0 op d m o st ar) (hs : st' = upd st j k) (ha : ar' = upd ar j y) (hj : (j : Int) = m) (hk : k = 0 ∨ (k = 1 ∧ 0 ≤ y.toInt ∧ y.toInt ≤ 5)) (hd : op - d ≤ 63) (e1 : op' = op) (e2 : d' = d) (e3 : m' = m + 1) : FI 1 op' d' m' o st' ar' := by
  obtain ⟨h1, h2, h3, h4, h5⟩ := h
  have ej : m.toNat = j := by omega
  rw [ej] at h4 h5
  refine ⟨by omega, by omega, by rw [e1, e2]; exact h3, ?_, ?_⟩
  · rw [show m'.toNat = j + 1 by omega, hs]
    show dpF (upd st j k) j + (if upd st j k j = 0 then 1 else if upd st j k j = 1 then 1 else if upd st j k j = 2 then 0 else -1) = _
    rw [dp_upd st j k j (Nat.le_refl _), upd_eq, h4]
    rcases hk with c | ⟨c, _⟩
    · rw [if_pos c]; omega
    · rw [c, if_neg (by decide), if_pos rfl]; omega
  · rw [show m'.toNat = j + 1 by omega, hs, ha]
    refine prog_add h5 ⟨fun _ => by omega, fun c => ⟨by omega, ?_⟩, fun c => ?_, fun c c' _ => ?_⟩
    · rcases hk with c' | ⟨_, c'⟩
      · rw [c'] at c; exact absurd c (by decide)
      · exact c'
    · rcases hk with c' | ⟨c', _⟩ <;> (rw [c'] at c; exact absurd c (by decide))
    · rcases hk with q | ⟨q, _⟩
      · exact absurd q c
      · exact absurd q c'
theorem FI.not {op d m op' d' m' : Int} {o st ar st' ar' : Nat → Int32} {j i : Nat} {t y : Int32} (h : FI 1 op d m o st ar) (hO : o j = t) (hj : (j : Int) + 1 = op) (ht : t.toInt = 21) (hs : st' = upd st i 2) (ha : ar' = upd ar i y) (hi : (i : Int) = m) (e1 : op' + 1 = op) (e2 : d' + 1 = d) (e3 : m' = m + 1) : FI 1 op' d' m' o st' ar' := by
  obtain ⟨h1, h2, h3, h4, h5⟩ := h
  have et : o j = 21 := hO.trans ((fa_eq _ _).mpr ht)
  have hr := cnt_rng o j
  have c9 : cntNB o j = d' := by
    rw [show op.toNat = j + 1 by omega] at h3
    have : cntNB o j + (if o j = 20 then 1 else if o j = 21 then 1 else 0) = d := h3
    rw [et, if_neg (by decide), if_pos rfl] at this
    omega
  have ej : m.toNat = i := by omega
  rw [ej] at h4 h5
  refine ⟨by omega, by omega, by rw [show op'.toNat = j by omega]; exact c9, ?_, ?_⟩
  · rw [show m'.toNat = i + 1 by omega, hs]
    show dpF (upd st i 2) i + (if upd st i 2 i = 0 then 1 else if upd st i 2 i = 1 then 1 else if upd st i 2 i = 2 then 0 else -1) = _
    rw [dp_upd st i 2 i (Nat.le_refl _), upd_eq, h4, if_neg (by decide), if_neg (by decide), if_pos rfl]
    omega
  · rw [show m'.toNat = i + 1 by omega, hs, ha]
    exact prog_add h5 ⟨fun c => absurd c (by decide), fun c => absurd c (by decide), fun _ => by omega, fun _ _ c => absurd rfl c⟩
theorem FI.dos {op d m op' d' m' : Int} {o st ar st' ar' : Nat → Int32} {j i : Nat} {t y : Int32} (h : FI 1 op d m o st ar) (hO : o j = t) (hj : (j : Int) + 1 = op) (n20 : ¬ t.toInt = 20) (n21 : ¬ t.toInt = 21) (hs : st' = upd st i 3) (ha : ar' = upd ar i y) (hi : (i : Int) = m) (e1 : op' + 1 = op) (e2 : d' = d) (e3 : m' = m + 1) : FI 1 op' d' m' o st' ar' := by
  obtain ⟨h1, h2, h3, h4, h5⟩ := h
  have c0 : ¬ o j = 20 := fun q => n20 (by rw [← hO, q]; decide)
  have c1 : ¬ o j = 21 := fun q => n21 (by rw [← hO, q]; decide)
  have hr := cnt_rng o j
  have c9 : cntNB o j = d := by
    rw [show op.toNat = j + 1 by omega] at h3
    have : cntNB o j + (if o j = 20 then 1 else if o j = 21 then 1 else 0) = d := h3
    rw [if_neg c0, if_neg c1] at this
    omega
  have ej : m.toNat = i := by omega
  rw [ej] at h4 h5
  refine ⟨by omega, by omega, by rw [show op'.toNat = j by omega, e2]; exact c9, ?_, ?_⟩
  · rw [show m'.toNat = i + 1 by omega, hs]
    show dpF (upd st i 3) i + (if upd st i 3 i = 0 then 1 else if upd st i 3 i = 1 then 1 else if upd st i 3 i = 2 then 0 else -1) = _
    rw [dp_upd st i 3 i (Nat.le_refl _), upd_eq, h4, if_neg (by decide), if_neg (by decide), if_neg (by decide)]
    omega
  · rw [show m'.toNat = i + 1 by omega, hs, ha]
    exact prog_add h5 ⟨fun c => absurd c (by decide), fun c => absurd c (by decide), fun c => absurd c (by decide), fun _ _ _ => by omega⟩
theorem FI.pop {op d m : Int} {o st ar : Nat → Int32} (h : FI 1 op d m o st ar) (ht : o (op - 1).toNat = 20) (hp : 1 ≤ op) : FI 1 (op - 1) (d - 1) m o st ar := by
  obtain ⟨h1, h2, h3, h4, h5⟩ := h
  refine ⟨by omega, h2, ?_, by omega, h5⟩
  rw [show op.toNat = (op - 1).toNat + 1 by omega] at h3
  have : cntNB o (op - 1).toNat + (if o (op - 1).toNat = 20 then 1 else if o (op - 1).toNat = 21 then 1 else 0) = d := h3
  rw [ht, if_pos rfl] at this
  omega
theorem gk_pop {o : Nat → Int32} {N a b j : Nat} {t : Int32} (h : ∀ k, k < N → o k = 20 → k < a) (hO : o j = t) (ht : ¬ t.toInt = 20) (e1 : a = b + 1) (e2 : j = b) : ∀ k, k < N → o k = 20 → k < b := by
  intro k h1 h2
  have h3 := h k h1 h2
  have c : ¬ k = b := fun q => ht (by rw [← hO, e2, ← q, h2]; decide)
  omega
theorem topEq {o : Nat → Int32} {j : Nat} {t : Int32} {x : Int} (hO : o j = t) (ht : t.toInt = 20) (e : (j : Int) = x) : o x.toNat = 20 := by
  rw [show x.toNat = j by omega, hO]; exact (fa_eq _ _).mpr ht
theorem i_eq {o : Nat → Int32} {j : Nat} {t : Int32} (hO : o j = t) (ht : t.toInt = 20) : o j = 20 := hO.trans ((fa_eq _ _).mpr ht)
theorem cp_step {st ar ns na : Nat → Int32} {a b : Nat} {x y : Int32} (h : ∀ j, j < a → st j = ns j ∧ ar j = na j) (hx : ns a = x) (hy : na a = y) (e : b = a + 1) : ∀ j, j < b → upd st a x j = ns j ∧ upd ar a y j = na j := by
  intro j hj
  by_cases c : j = a
  · rw [c, upd_eq, upd_eq]; exact ⟨hx.symm, hy.symm⟩
  · rw [upd_ne c, upd_ne c]; exact h j (by omega)
theorem dp_cong {st ns : Nat → Int32} : ∀ k, (∀ j, j < k → st j = ns j) → dpF st k = dpF ns k
  | 0, _ => rfl
  | k + 1, h => by
    show dpF st k + (if st k = 0 then 1 else if st k = 1 then 1 else if st k = 2 then 0 else -1) = dpF ns k + (if ns k = 0 then 1 else if ns k = 1 then 1 else if ns k = 2 then 0 else -1)
    rw [dp_cong k (fun j hj => h j (by omega)), h k (by omega)]
theorem cp_done {st ar ns na : Nat → Int32} {a : Nat} {m : Int} {n : Nat} (h : ∀ j, j < a → st j = ns j ∧ ar j = na j) (hp : progOK ns na m.toNat) (e : n ≤ a ∧ n = m.toNat) : progOK st ar n := by
  intro s hs
  rw [dp_cong s (fun j hj => (h j (by omega)).1), (h s (by omega)).1, (h s (by omega)).2]
  exact hp s (by omega)
theorem FI.topd {x op d m : Int} {o st ar : Nat → Int32} {j : Nat} {t : Int32} (h : FI x op d m o st ar) (hO : o j = t) (hj : (j : Int) + 1 = op) (ht : t.toInt = 21) : 1 ≤ d := by
  obtain ⟨h1, h2, h3, h4, h5⟩ := h
  have et : o j = 21 := hO.trans ((fa_eq _ _).mpr ht)
  have hr := cnt_rng o j
  rw [show op.toNat = j + 1 by omega] at h3
  have : cntNB o j + (if o j = 20 then 1 else if o j = 21 then 1 else 0) = d := h3
  rw [et, if_neg (by decide), if_pos rfl] at this
  omega
/-- at doesn't fall; the sort is as it was, or at grew, or it isn't the line's end -/
def GR (a s b t : Int) : Prop := a ≤ b ∧ (t = s ∨ a < b ∨ ¬ t = 59)
theorem GR.refl (a s : Int) : GR a s a s := ⟨Int.le_refl a, Or.inl rfl⟩
theorem GR.cast {a s b t b' t' : Int} (h : GR a s b t) (e1 : b' = b) (e2 : t' = t) : GR a s b' t' := by rw [e1, e2]; exact h
theorem GR.tr {a s b t b' t' c u : Int} (h : GR a s b t) (g : GR b' t' c u) (e1 : b' = b) (e2 : t' = t) : GR a s c u := by
  rw [e1, e2] at g
  obtain ⟨h1, h2⟩ := h
  obtain ⟨g1, g2⟩ := g
  exact ⟨by omega, by omega⟩
theorem GR.grew {a s b t : Int} (h : GR a s b t) (e : t = 59) (n : s = 1) : a < b := by
  obtain ⟨h1, h2⟩ := h
  omega
def GA (q a b : Int) : Prop := a ≤ b ∧ (0 < q ∨ a < b)
theorem GA.mk {q a s b t c : Int} (h : a < c) (g : GR a s b t) (e : c ≤ b) : GA q a b := ⟨g.1, Or.inr (by omega)⟩
theorem GA.ab {q a s b t b' : Int} (g : GR a s b t) (e : b' = b) (h : 0 < q) : GA q a b' := ⟨by rw [e]; exact g.1, Or.inl h⟩
theorem GA.or {q a b : Int} (h : GA q a b) : a ≤ b ∧ (0 < q ∨ a < b) := h
def IM0 (q : Int) (P : Prop) : Prop := q = 0 → P
def IMn (q : Int) (P : Prop) : Prop := ¬ q = 0 → P
/-- the numbers in unit's loop, where nothing is wrong -/
def NU (q n o u d : Int) : Prop := q = 0 → n + o + (8 - d) ≤ 10 * u + 9 ∧ o ≤ d + u + 1 ∧ u ≤ 30 ∧ d ≤ 7
theorem NU.mk {q n o u d : Int} (h1 : n + o + (8 - d) ≤ 10 * u + 9) (h2 : o ≤ d + u + 1) (h3 : u ≤ 30) (h4 : d ≤ 7) : NU q n o u d := fun _ => ⟨h1, h2, h3, h4⟩
theorem NU.ab {q n o u d : Int} (h : 0 < q) : NU q n o u d := fun e => absurd e (by omega)
/-- .. and behind a unit -/
def NB (q n o u d : Int) : Prop := q = 0 → n + o ≤ 10 * u ∧ o ≤ d + u ∧ u ≤ 30 ∧ d ≤ 7
theorem NB.mk {q n o u d : Int} (h1 : n + o ≤ 10 * u) (h2 : o ≤ d + u) (h3 : u ≤ 30) (h4 : d ≤ 7) : NB q n o u d := fun _ => ⟨h1, h2, h3, h4⟩
theorem NB.ab {q n o u d : Int} (h : 0 < q) : NB q n o u d := fun e => absurd e (by omega)
theorem NB.cast {q n o u d q' n' o' u' d' : Int} (h : NB q n o u d) (e1 : q' = q) (e2 : n' = n) (e3 : o' = o) (e4 : u' = u) (e5 : d' = d) : NB q' n' o' u' d' := by rw [e1, e2, e3, e4, e5]; exact h
def UG (q a b : Int) : Prop := q = 0 → a < b
theorem UG.mk {q a b : Int} (h : a < b) : UG q a b := fun _ => h
theorem UG.ab {q a b : Int} (h : 0 < q) : UG q a b := fun e => absurd e (by omega)
def HU (q a b o d : Int) : Prop := 0 < q ∨ (a < b ∧ o ≤ d + b ∧ b ≤ 30 ∧ d ≤ 7)
theorem UG.or {q a b n o d : Int} (h : UG q a b) (g : NB q n o b d) (hq : 0 ≤ q) : HU q a b o d := by
  by_cases e : q = 0
  · have h1 := h e
    obtain ⟨g1, g2, g3, g4⟩ := g e
    exact Or.inr ⟨h1, g2, g3, g4⟩
  · exact Or.inl (by omega)
def HBx (x n : Int) (o : Nat → Int32) : Prop := x = 1 → ∃ k, k < n.toNat ∧ o k = 20
def SG (x : Int) : Prop := x = 0 ∨ 37 ≤ x
theorem SG.n20 {x : Int} (h : SG x) (h0 : ¬ x = 0) : ¬ x = 20 := by
  rcases h with h | h
  · exact absurd h h0
  · omega
theorem SG.n21 {x : Int} (h : SG x) (h0 : ¬ x = 0) : ¬ x = 21 := by
  rcases h with h | h
  · exact absurd h h0
  · omega
theorem msF {a b d l o1 q : Int} {n : Nat} (hm : 100 * (31 - a) + 1 ≤ (n : Int)) (hug : HU q a b o1 d) (ho : o1 ≤ 160) (hb : 0 ≤ b) (hl : l ≤ 1) (hl0 : 0 ≤ l) (ha : a ≤ 30) (hq : 0 ≤ q) : (1 + 100 * (31 - b) + 2 * o1 + l - 100000 * q).toNat < n := by
  rcases hug with h | ⟨h1, h2, h3, h4⟩
  · have : (1 + 100 * (31 - b) + 2 * o1 + l - 100000 * q).toNat = 0 := by omega
    omega
  · omega
