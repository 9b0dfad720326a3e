section
variable {NF : Nat}
def NWS (D a b : Nat) (x y : Nat → Int32) : Prop := NWR D a b (upd x 43 0) (upd y 38 0)
theorem NWR.s {D a b : Nat} {x y : Nat → Int32} (h : NWR D a b x y) (ha : a ≤ 6) (hb : b ≤ 6) : NWS D a b x y := by
  obtain ⟨h1, h2, ⟨T, t1, t2, t3⟩, h4, h5, h6⟩ := h
  refine ⟨fun m hm => ?_, fun c hc => ?_, ⟨T, t1, ?_, fun c hc => ?_⟩, ?_, ?_, fun m m' hm hm' => ?_⟩
  · rw [pk_un (by omega), pk_un (by omega), pk_un (by omega), pk_un (by omega)]; exact h1 m hm
  · rw [pk_un (by omega), pk_un (by omega), pk_un (by omega), pk_un (by omega), pk_un (by omega), pk_un (by omega), pk_un (by omega), pk_un (by omega)]; exact h2 c hc
  · rw [pk_un (by omega)]; exact t2
  · rw [pk_un (by omega)]; exact t3 c hc
  · rw [pk_un (by omega), pk_un (by omega)]; exact h4
  · rw [pk_us, pk_us]; exact ⟨rfl, 0, by omega, rfl⟩
  · rw [pk_un (by omega), pk_un (by omega)]; exact h6 m m' hm hm'
theorem NWS.o {D a b : Nat} {x y : Nat → Int32} (h : NWS D a b x y) (ha : a ≤ 6) (hb : b ≤ 6) : (∀ m, m < a → x m = y m ∧ NBx 99 (x m) ∧ x (6 + m) = y (6 + m) ∧ (x (6 + m) = -1 ∨ ∃ c, c < b ∧ x (6 + m) = nI c)) ∧ (∀ c, c < b → (x (12 + c) = y (12 + c) ∧ NBx 99 (x (12 + c))) ∧ (x (18 + c) = y (18 + c) ∧ NBx 99 (x (18 + c))) ∧ (x (24 + c) = y (24 + c) ∧ NBx 99 (x (24 + c))) ∧ (x (30 + c) = y (30 + c) ∧ NBx 99 (x (30 + c)))) ∧ (∃ T, T < 64 ∧ y 36 = nI T ∧ ∀ c, c < b → x (36 + c) = nI (T / 2 ^ c % 2)) ∧ (x 42 = y 37 ∧ NBx D (x 42)) ∧ (∀ m m', m < a → m' < a → x (6 + m) = x (6 + m') → ¬ x (6 + m) = -1 → m = m') := by
  obtain ⟨h1, h2, ⟨T, t1, t2, t3⟩, h4, h5, h6⟩ := h
  refine ⟨fun m hm => ?_, fun c hc => ?_, ⟨T, t1, ?_, fun c hc => ?_⟩, ?_, fun m m' hm hm' => ?_⟩
  · have q := h1 m hm
    rw [pk_un (by omega), pk_un (by omega), pk_un (by omega), pk_un (by omega)] at q; exact q
  · have q := h2 c hc
    rw [pk_un (by omega), pk_un (by omega), pk_un (by omega), pk_un (by omega), pk_un (by omega), pk_un (by omega), pk_un (by omega), pk_un (by omega)] at q; exact q
  · rw [pk_un (by omega)] at t2; exact t2
  · have q := t3 c hc
    rw [pk_un (by omega)] at q; exact q
  · rw [pk_un (by omega), pk_un (by omega)] at h4; exact h4
  · have q := h6 m m' hm hm'
    rw [pk_un (by omega), pk_un (by omega)] at q; exact q
theorem NWS.of {D a b : Nat} {x y : Nat → Int32} (ha : a ≤ 6) (hb : b ≤ 6) (h1 : ∀ m, m < a → x m = y m ∧ NBx 99 (x m) ∧ x (6 + m) = y (6 + m) ∧ (x (6 + m) = -1 ∨ ∃ c, c < b ∧ x (6 + m) = nI c)) (h2 : ∀ c, c < b → (x (12 + c) = y (12 + c) ∧ NBx 99 (x (12 + c))) ∧ (x (18 + c) = y (18 + c) ∧ NBx 99 (x (18 + c))) ∧ (x (24 + c) = y (24 + c) ∧ NBx 99 (x (24 + c))) ∧ (x (30 + c) = y (30 + c) ∧ NBx 99 (x (30 + c)))) (h3 : ∃ T, T < 64 ∧ y 36 = nI T ∧ ∀ c, c < b → x (36 + c) = nI (T / 2 ^ c % 2)) (h4 : x 42 = y 37 ∧ NBx D (x 42)) (h6 : ∀ m m', m < a → m' < a → x (6 + m) = x (6 + m') → ¬ x (6 + m) = -1 → m = m') : NWS D a b x y := by
  obtain ⟨T, t1, t2, t3⟩ := h3
  refine ⟨fun m hm => ?_, fun c hc => ?_, ⟨T, t1, ?_, fun c hc => ?_⟩, ?_, ?_, fun m m' hm hm' => ?_⟩
  · rw [pk_un (by omega), pk_un (by omega), pk_un (by omega), pk_un (by omega)]; exact h1 m hm
  · rw [pk_un (by omega), pk_un (by omega), pk_un (by omega), pk_un (by omega), pk_un (by omega), pk_un (by omega), pk_un (by omega), pk_un (by omega)]; exact h2 c hc
  · rw [pk_un (by omega)]; exact t2
  · rw [pk_un (by omega)]; exact t3 c hc
  · rw [pk_un (by omega), pk_un (by omega)]; exact h4
  · rw [pk_us, pk_us]; exact ⟨rfl, 0, by omega, rfl⟩
  · rw [pk_un (by omega), pk_un (by omega)]; exact h6 m m' hm hm'
theorem NWS.r {D a b : Nat} {x y : Nat → Int32} (h : NWS D a b x y) (ha : a ≤ 6) (hb : b ≤ 6) (h5 : x 43 = y 38 ∧ NBx 999 (x 43)) : NWR D a b x y := by
  obtain ⟨h1, h2, h3, h4, h6⟩ := h.o ha hb
  exact ⟨h1, h2, h3, h4, h5, h6⟩
theorem NWS.day {D a b z : Nat} {x y x2 y2 gx : Nat → Int32} (ha : a ≤ 6) (hb : b ≤ 6) (hz : z ≤ 1) (hD : D < 2 ^ 30) (h : NWS D a b x y) (hx1 : ∀ m, m < a → x2 m = nI (min 99 (nv (x m) + nv (gx m)))) (hy1 : ∀ m, m < a → y2 m = nI (min 99 (nv (y m) + nv (gx m)))) (hx2 : ∀ k, 6 ≤ k → (k < 12 ∨ (24 ≤ k ∧ k < 30) ∨ (36 ≤ k ∧ k < 42)) → x2 k = x k) (hy2 : ∀ k, 6 ≤ k → (k < 12 ∨ (24 ≤ k ∧ k < 30) ∨ k = 36) → y2 k = y k) (hx3 : ∀ c, c < b → ((∃ m, m < a ∧ x (6 + m) = nI c) → x2 (12 + c) = nI (nv (x (12 + c)) - z) ∧ x2 (18 + c) = nI (nv (x (18 + c)) - z) ∧ x2 (30 + c) = nI (min 99 (nv (x (30 + c)) + 1))) ∧ ((¬ ∃ m, m < a ∧ x (6 + m) = nI c) → x2 (12 + c) = x (12 + c) ∧ x2 (18 + c) = x (18 + c) ∧ x2 (30 + c) = x (30 + c))) (hy3 : ∀ c, c < b → ((∃ m, m < a ∧ y (6 + m) = nI c) → y2 (12 + c) = nI (nv (y (12 + c)) - z) ∧ y2 (18 + c) = nI (nv (y (18 + c)) - z) ∧ y2 (30 + c) = nI (min 99 (nv (y (30 + c)) + 1))) ∧ ((¬ ∃ m, m < a ∧ y (6 + m) = nI c) → y2 (12 + c) = y (12 + c) ∧ y2 (18 + c) = y (18 + c) ∧ y2 (30 + c) = y (30 + c))) (hx4 : x2 42 = x 42 + 1) (hy4 : y2 37 = y 37 + 1) : NWS (D + 1) a b x2 y2 := by
  obtain ⟨h1, h2, ⟨T, t1, t2, t3⟩, ⟨h4, d, hd, ed⟩, h6⟩ := h.o ha hb
  refine NWS.of ha hb (fun m hm => ?_) (fun c hc => ?_) ⟨T, t1, ?_, fun c hc => ?_⟩ ⟨?_, d + 1, by omega, ?_⟩ (fun m m' hm hm' => ?_)
  · obtain ⟨q1, q2, q3, q4⟩ := h1 m hm
    rw [hx1 m hm, hy1 m hm, hx2 (6 + m) (by omega) (by omega), hy2 (6 + m) (by omega) (by omega), q1]
    exact ⟨rfl, ⟨_, by omega, rfl⟩, q3, q4⟩
  · obtain ⟨⟨q1, n1⟩, ⟨q2, n2⟩, ⟨q3, n3⟩, ⟨q4, n4⟩⟩ := h2 c hc
    rw [hx2 (24 + c) (by omega) (by omega), hy2 (24 + c) (by omega) (by omega)]
    obtain ⟨k1, _⟩ := n1.nat (by decide)
    obtain ⟨k2, _⟩ := n2.nat (by decide)
    by_cases p : ∃ m, m < a ∧ x (6 + m) = nI c
    · have p' : ∃ m, m < a ∧ y (6 + m) = nI c := by
        obtain ⟨m, hm, em⟩ := p
        exact ⟨m, hm, (h1 m hm).2.2.1.symm.trans em⟩
      obtain ⟨a1, a2, a3⟩ := (hx3 c hc).1 p
      obtain ⟨b1, b2, b3⟩ := (hy3 c hc).1 p'
      rw [a1, a2, a3, b1, b2, b3, q1, q2, q4]
      rw [q1] at k1
      rw [q2] at k2
      exact ⟨⟨rfl, _, by omega, rfl⟩, ⟨rfl, _, by omega, rfl⟩, ⟨q3, n3⟩, ⟨rfl, _, by omega, rfl⟩⟩
    · have p' : ¬ ∃ m, m < a ∧ y (6 + m) = nI c := fun ⟨m, hm, em⟩ => p ⟨m, hm, (h1 m hm).2.2.1.trans em⟩
      obtain ⟨a1, a2, a3⟩ := (hx3 c hc).2 p
      obtain ⟨b1, b2, b3⟩ := (hy3 c hc).2 p'
      rw [a1, a2, a3, b1, b2, b3]
      exact ⟨⟨q1, n1⟩, ⟨q2, n2⟩, ⟨q3, n3⟩, ⟨q4, n4⟩⟩
  · rw [hy2 36 (by omega) (by omega)]; exact t2
  · rw [hx2 (36 + c) (by omega) (by omega)]; exact t3 c hc
  · rw [hx4, hy4, h4]
  · rw [hx4, ed, nI_1]
  · rw [hx2 (6 + m) (by omega) (by omega), hx2 (6 + m') (by omega) (by omega)]; exact h6 m m' hm hm'
theorem NWS.shed {D a b : Nat} {x y x2 y2 : Nat → Int32} {p : Nat → Bool} (ha : a ≤ 6) (hb : b ≤ 6) (h : NWS D a b x y) (hx : ∀ k, ¬ (6 ≤ k ∧ k < 6 + a) → x2 k = x k) (hy : ∀ k, ¬ (6 ≤ k ∧ k < 6 + a) → y2 k = y k) (hx' : ∀ m, m < a → x2 (6 + m) = if p m = true then -1 else x (6 + m)) (hy' : ∀ m, m < a → y2 (6 + m) = if p m = true then -1 else y (6 + m)) : NWS D a b x2 y2 := by
  obtain ⟨h1, h2, ⟨T, t1, t2, t3⟩, h4, h6⟩ := h.o ha hb
  refine NWS.of ha hb (fun m hm => ?_) (fun c hc => ?_) ⟨T, t1, ?_, fun c hc => ?_⟩ ?_ (fun m m' hm hm' => ?_)
  · obtain ⟨q1, q2, q3, q4⟩ := h1 m hm
    rw [hx m (by omega), hy m (by omega), hx' m hm, hy' m hm]
    by_cases c : p m = true
    · rw [if_pos c, if_pos c]; exact ⟨q1, q2, rfl, Or.inl rfl⟩
    · rw [if_neg c, if_neg c]; exact ⟨q1, q2, q3, q4⟩
  · rw [hx (12 + c) (by omega), hx (18 + c) (by omega), hx (24 + c) (by omega), hx (30 + c) (by omega), hy (12 + c) (by omega), hy (18 + c) (by omega), hy (24 + c) (by omega), hy (30 + c) (by omega)]; exact h2 c hc
  · rw [hy 36 (by omega)]; exact t2
  · rw [hx (36 + c) (by omega)]; exact t3 c hc
  · rw [hx 42 (by omega), hy 37 (by omega)]; exact h4
  · rw [hx' m hm, hx' m' hm']
    intro e1 e2
    by_cases c : p m = true
    · rw [if_pos c] at e2; exact absurd rfl e2
    · rw [if_neg c] at e1 e2
      by_cases c' : p m' = true
      · rw [if_pos c'] at e1; exact absurd e1 e2
      · rw [if_neg c'] at e1; exact h6 m m' hm hm' e1 e2
theorem NWS.cms {D a b : Nat} {x y : Nat → Int32} (h : NWS D a b x y) (ha : a ≤ 6) (hb : b ≤ 6) : CMS D a b x y := by
  obtain ⟨h1, h2, _, h4, _⟩ := h.o ha hb
  exact ⟨fun m hm => ⟨(h1 m hm).1, (h1 m hm).2.1⟩, fun c hc => ⟨(h2 c hc).1, (h2 c hc).2.1, (h2 c hc).2.2.2⟩, h4.1, h4.2⟩
theorem dr1_nI {s : Nat} (hs : s ≤ 999) : dr1 (nI s) = nI ((s * 137 + 71) % 1000) := by
  unfold dr1
  have e : nI s * 137 + 71 = nI (s * 137 + 71) := by
    rw [show nI s * 137 = nI (s * 137) from nI_mulI s 137]
    exact nI_add (s * 137) 71
  rw [e]
  exact nI_modI (b := 1000) (by omega) (by decide)
theorem dr1_NB {x : Int32} (h : NBx 999 x) : NBx 999 (dr1 x) := by
  obtain ⟨s, hs, rfl⟩ := h
  exact ⟨_, by omega, dr1_nI hs⟩
theorem dayB1_0 {v : Nat → Int32} {f F : Nat → Nat → Int32} {v1 : Nat → Int32} {f1 F1 : Nat → Nat → Int32} {w1 : Int64} {g : Nat → Int64} {a b D : Nat} {p1 : Int32} (a1 : v 31 = nI a) (a2 : v1 24 = nI a) (a3 : a ≤ 6) (b1 : v 32 = nI b) (b2 : v1 25 = nI b) (b3 : b ≤ 6) (sm : STM f f1 a) (sf : STF v f v1 f1) (es : v 33 = v1 26) (hD : D + 1 ≤ 9999) (hF : ∀ q, q = 9 ∨ q = 11 ∨ q = 12 → F q = f q) (hF1 : ∀ q, q = 4 ∨ q = 5 ∨ q = 16 ∨ q = 18 → F1 q = f1 q) (hn : NWS D a b (F 15) (F1 24)) (hp :  p1 ≤ dr2 (F 15 43)) : ∃ (r : Int32) (F' F1' : Nat → Nat → Int32), gsX_X1_passDay_1 NF p1 v F = (r, v, F') ∧ gsY_X11_goDay_1 NF (nI 0) v1 F1 w1 g = (r, v1, F1', w1, g) ∧ (∀ q, q ≠ 13 → q ≠ 14 → q ≠ 15 → F' q = F q) ∧ (∀ q, q ≠ 7 → q ≠ 8 → q ≠ 24 → F1' q = F1 q) ∧ NWS (D + 1) a b (F' 15) (F1' 24) ∧ F' 15 43 = dr1 (F 15 43) ∧ F1' 24 38 = F1 24 38 := by
  obtain ⟨h1, h2, h3, h4, h6⟩ := hn.o a3 b3
  have hG : ∀ m, m < a → NBx 9 (F 9 (12 + m)) := fun m hm => by
    rw [hF 9 (Or.inl rfl)]
    exact NBx.of (n := 9) rfl (by decide) (sm m hm).2.2.2.2.2
  have hG1 : ∀ m, m < a → F1 18 m = F 9 (12 + m) := fun m hm => by
    rw [hF 9 (Or.inl rfl), hF1 18 (by omega)]
    exact (sm m hm).2.2.1.symm
  obtain ⟨A, x1, x2, x3, x4⟩ := xGrow1 (NF := NF) (p1 := p1) a1 a3 (fun m hm => (h1 m hm).2.1) hG
  obtain ⟨B, y1, y2, y3, y4⟩ := yGrow (NF := NF) (F1 := F1) (w1 := w1) (g := g) (p1 := nI 0) a2 a3 (fun m hm => by rw [← (h1 m hm).1]; exact (h1 m hm).2.1) (fun m hm => by rw [hG1 m hm]; exact hG m hm)
  have A43 : A 15 43 = F 15 43 := x2 43 (by omega)
  rw [A43] at x4
  generalize hQ : upd2 A 15 (upd (A 15) 43 (dr1 (F 15 43))) = Q at x4
  have qk : ∀ k, k ≠ 43 → Q 15 k = A 15 k := fun k hk => by rw [← hQ, u2s, pk_un hk]
  have q43 : Q 15 43 = dr1 (F 15 43) := by rw [← hQ, u2s, pk_us]
  have qw : ∀ m, m < a → Q 15 (6 + m) = F 15 (6 + m) := fun m hm => (qk _ (by omega)).trans (x2 _ (by omega))
  have qc : ∀ k, 12 ≤ k → k ≠ 43 → Q 15 k = F 15 k := fun k h1 h2 => (qk _ h2).trans (x2 _ (by omega))
  have qF : ∀ q, q ≠ 15 → Q q = F q := fun q hq => by rw [← hQ]; exact (u2n hq).trans (x1 q hq)
  have hwQ : ∀ m, m < a → Q 15 (6 + m) = -1 ∨ ∃ c, c < b ∧ Q 15 (6 + m) = nI c := fun m hm => by rw [qw m hm]; exact (h1 m hm).2.2.2
  have hiQ : ∀ m m', m < a → m' < a → Q 15 (6 + m) = Q 15 (6 + m') → ¬ Q 15 (6 + m) = -1 → m = m' := fun m m' hm hm' => by rw [qw m hm, qw m' hm']; exact h6 m m' hm hm'
  have hNQ : ∀ c, c < b → NBx 99 (Q 15 (12 + c)) ∧ NBx 99 (Q 15 (18 + c)) ∧ NBx 99 (Q 15 (30 + c)) := fun c hc => by
    rw [qc _ (by omega) (by omega), qc _ (by omega) (by omega), qc _ (by omega) (by omega)]
    exact ⟨(h2 c hc).1.2, (h2 c hc).2.1.2, (h2 c hc).2.2.2.2⟩
  have bw : ∀ m, m < a → B 24 (6 + m) = F1 24 (6 + m) := fun m hm => y2 _ (by omega)
  have hNB : ∀ c, c < b → NBx 99 (B 24 (12 + c)) ∧ NBx 99 (B 24 (18 + c)) ∧ NBx 99 (B 24 (30 + c)) := fun c hc => by
    rw [y2 _ (by omega), y2 _ (by omega), y2 _ (by omega), ← (h2 c hc).1.1, ← (h2 c hc).2.1.1, ← (h2 c hc).2.2.2.1]
    exact ⟨(h2 c hc).1.2, (h2 c hc).2.1.2, (h2 c hc).2.2.2.2⟩
  obtain ⟨E, e1, ⟨e2, e3⟩, e4⟩ := yWeat (NF := NF) (F1 := B) (w1 := w1) (g := g) (z := 0) (by decide) a2 a3 b2 b3 hNB
  generalize hY : upd2 E 24 (upd (E 24) 37 (E 24 37 + 1)) = Y at e4
  have yk : ∀ k, k ≠ 37 → Y 24 k = E 24 k := fun k hk => by rw [← hY, u2s, pk_un hk]
  have yF : ∀ q, q ≠ 24 → Y q = F1 q := fun q hq => by rw [← hY]; exact (u2n hq).trans ((e1 q hq).trans (y1 q hq))
  have y24 : ∀ k, (6 ≤ k ∧ k < 12) ∨ (24 ≤ k ∧ k < 30) ∨ k = 36 ∨ k = 38 → Y 24 k = F1 24 k := fun k hk => (yk k (by omega)).trans ((e2 k (by omega)).trans (y2 k (by omega)))
  obtain ⟨M, m1, ⟨m2, m3⟩, m4⟩ := xWeat1_0 (NF := NF) (F := Q) a1 a3 b1 b3 hwQ hiQ hNQ
  rw [if_pos hp, m4] at x4
  clear m4
  generalize hX : upd2 M 15 (upd (M 15) 42 (M 15 42 + 1)) = X at x4
  have xk : ∀ k, k ≠ 42 → X 15 k = M 15 k := fun k hk => by rw [← hX, u2s, pk_un hk]
  have xF : ∀ q, q ≠ 15 → X q = F q := fun q hq => by rw [← hX]; exact (u2n hq).trans ((m1 q hq).trans (qF q hq))
  have hday : NWS (D + 1) a b (X 15) (Y 24) := by
    refine NWS.day (x := F 15) (y := F1 24) (gx := fun m => F 9 (12 + m)) a3 b3 (z := 0) (by decide) (by omega) hn (fun m hm => ?_) (fun m hm => ?_) (fun k k1 k2 => ?_) (fun k k1 k2 => ?_) (fun c hc => ?_) (fun c hc => ?_) ?_ ?_
    · rw [xk m (by omega), m2 m (by omega), qk m (by omega)]; exact x3 m hm
    · rw [yk m (by omega), e2 m (by omega), y3 m hm, hG1 m hm]
    · rw [xk k (by omega), m2 k (by omega), qk k (by omega)]; exact x2 k (by omega)
    · exact y24 k (by omega)
    · have pc : (∃ m, m < a ∧ Q 15 (6 + m) = nI c) ↔ ∃ m, m < a ∧ F 15 (6 + m) = nI c := ⟨fun ⟨m, hm, em⟩ => ⟨m, hm, (qw m hm).symm.trans em⟩, fun ⟨m, hm, em⟩ => ⟨m, hm, (qw m hm).trans em⟩⟩
      have q := m3 c hc
      rw [qc (12 + c) (by omega) (by omega), qc (18 + c) (by omega) (by omega), qc (30 + c) (by omega) (by omega)] at q
      rw [xk (12 + c) (by omega), xk (18 + c) (by omega), xk (30 + c) (by omega)]
      exact ⟨fun h => q.1 (pc.mpr h), fun h => q.2 (fun h' => h (pc.mp h'))⟩
    · have pc : (∃ m, m < a ∧ B 24 (6 + m) = nI c) ↔ ∃ m, m < a ∧ F1 24 (6 + m) = nI c := ⟨fun ⟨m, hm, em⟩ => ⟨m, hm, (bw m hm).symm.trans em⟩, fun ⟨m, hm, em⟩ => ⟨m, hm, (bw m hm).trans em⟩⟩
      have q := e3 c hc
      rw [y2 (12 + c) (by omega), y2 (18 + c) (by omega), y2 (30 + c) (by omega)] at q
      rw [yk (12 + c) (by omega), yk (18 + c) (by omega), yk (30 + c) (by omega)]
      exact ⟨fun h => q.1 (pc.mpr h), fun h => q.2 (fun h' => h (pc.mp h'))⟩
    · rw [← hX, u2s, pk_us, m2 42 (by omega), qc 42 (by omega) (by omega)]
    · rw [← hY, u2s, pk_us, e2 37 (by omega), y2 37 (by omega)]
  obtain ⟨d1, d2, d3, d4, d6⟩ := hday.o a3 b3
  have cms := hday.cms a3 b3
  obtain ⟨Z, z1, z2, z3, z4⟩ := xShed1_21 (NF := NF) (v := v) (F := X) (v1 := v1) (F1 := Y) (w1 := w1) (g := g) a1 a3 b1 b3 sm sf hD (fun q hq => (xF q (by omega)).trans (hF q hq)) (fun q hq => (yF q (by omega)).trans (hF1 q (by omega))) cms (fun m hm => (d1 m hm).2.2.2)
  have hwY : ∀ m, m < a → Y 24 (6 + m) = X 15 (6 + m) ∧ (X 15 (6 + m) = -1 ∨ ∃ c, c < b ∧ X 15 (6 + m) = nI c) := fun m hm => ⟨(d1 m hm).2.2.1.symm, (d1 m hm).2.2.2⟩
  have wr := yWearers (NF := NF) (F1 := Y) (w1 := w1) (g := g) a2 a3 hwY b3
  obtain ⟨K, k1, k2⟩ := yFitted (NF := NF) (F1 := Y) (w1 := w1) (g := g) a1 a2 a3 b1 b3 sm sf es hD (fun q hq => (yF q (by omega)).trans (hF1 q (by omega))) cms hwY
  have an := bts_and (wrB (X 15)) (ftB (v 33) (yI NF v1 Y w1 g) (X 15)) a3
  have an : nI (bts (wrB (X 15)) a) &&& (nI (bts (ftB (v 33) (yI NF v1 Y w1 g) (X 15)) a) ^^^ (-1)) = nI (bts (shB (v 33) (yI NF v1 Y w1 g) (X 15)) a) := an
  obtain ⟨L, l1, l2, l3, l4⟩ := yShed (NF := NF) (F1 := K) (w1 := w1) (g := g) (p := shB (v 33) (yI NF v1 Y w1 g) (X 15)) a2 a3 a2
  have k24 : K 24 = Y 24 := k1 24 (by decide) (by decide)
  refine ⟨nI (bts (shB (v 33) (yI NF v1 Y w1 g) (X 15)) a), Z, L, x4.trans z4, ?_, fun q q1 q2 q3 => (z1 q q1 q2 q3).trans (xF q q3), fun q q1 q2 q3 => (l1 q q3).trans ((k1 q q1 q2).trans (yF q q3)), ?_, ?_, ?_⟩
  · rw [y4, e4]
    unfold yAft
    rw [k2]
    show gsY_X11_goDay_1_L22 NF v1 (gsY_X11_wearers_1 NF v1 Y w1 g &&& (nI (bts (ftB (v 33) (yI NF v1 Y w1 g) (X 15)) a) ^^^ (-1))) (4294967296 + NF) 0 v1 K w1 g = _
    rw [wr, an, l4]
  · refine hday.shed a3 b3 (p := shB (v 33) (yI NF v1 Y w1 g) (X 15)) z2 (fun k hk => ?_) z3 (fun m hm => ?_)
    · rw [l2 k hk, k24]
    · rw [l3 m hm, k24]
  · rw [z2 43 (by omega), xk 43 (by decide), m2 43 (by omega), q43]
  · rw [l2 38 (by omega), k24, y24 38 (by omega)]
theorem dayB1_1 {v : Nat → Int32} {f F : Nat → Nat → Int32} {v1 : Nat → Int32} {f1 F1 : Nat → Nat → Int32} {w1 : Int64} {g : Nat → Int64} {a b D : Nat} {p1 : Int32} (a1 : v 31 = nI a) (a2 : v1 24 = nI a) (a3 : a ≤ 6) (b1 : v 32 = nI b) (b2 : v1 25 = nI b) (b3 : b ≤ 6) (sm : STM f f1 a) (sf : STF v f v1 f1) (es : v 33 = v1 26) (hD : D + 1 ≤ 9999) (hF : ∀ q, q = 9 ∨ q = 11 ∨ q = 12 → F q = f q) (hF1 : ∀ q, q = 4 ∨ q = 5 ∨ q = 16 ∨ q = 18 → F1 q = f1 q) (hn : NWS D a b (F 15) (F1 24)) (hp : ¬ p1 ≤ dr2 (F 15 43)) : ∃ (r : Int32) (F' F1' : Nat → Nat → Int32), gsX_X1_passDay_1 NF p1 v F = (r, v, F') ∧ gsY_X11_goDay_1 NF (nI 1) v1 F1 w1 g = (r, v1, F1', w1, g) ∧ (∀ q, q ≠ 13 → q ≠ 14 → q ≠ 15 → F' q = F q) ∧ (∀ q, q ≠ 7 → q ≠ 8 → q ≠ 24 → F1' q = F1 q) ∧ NWS (D + 1) a b (F' 15) (F1' 24) ∧ F' 15 43 = dr1 (F 15 43) ∧ F1' 24 38 = F1 24 38 := by
  obtain ⟨h1, h2, h3, h4, h6⟩ := hn.o a3 b3
  have hG : ∀ m, m < a → NBx 9 (F 9 (12 + m)) := fun m hm => by
    rw [hF 9 (Or.inl rfl)]
    exact NBx.of (n := 9) rfl (by decide) (sm m hm).2.2.2.2.2
  have hG1 : ∀ m, m < a → F1 18 m = F 9 (12 + m) := fun m hm => by
    rw [hF 9 (Or.inl rfl), hF1 18 (by omega)]
    exact (sm m hm).2.2.1.symm
  obtain ⟨A, x1, x2, x3, x4⟩ := xGrow1 (NF := NF) (p1 := p1) a1 a3 (fun m hm => (h1 m hm).2.1) hG
  obtain ⟨B, y1, y2, y3, y4⟩ := yGrow (NF := NF) (F1 := F1) (w1 := w1) (g := g) (p1 := nI 1) a2 a3 (fun m hm => by rw [← (h1 m hm).1]; exact (h1 m hm).2.1) (fun m hm => by rw [hG1 m hm]; exact hG m hm)
  have A43 : A 15 43 = F 15 43 := x2 43 (by omega)
  rw [A43] at x4
  generalize hQ : upd2 A 15 (upd (A 15) 43 (dr1 (F 15 43))) = Q at x4
  have qk : ∀ k, k ≠ 43 → Q 15 k = A 15 k := fun k hk => by rw [← hQ, u2s, pk_un hk]
  have q43 : Q 15 43 = dr1 (F 15 43) := by rw [← hQ, u2s, pk_us]
  have qw : ∀ m, m < a → Q 15 (6 + m) = F 15 (6 + m) := fun m hm => (qk _ (by omega)).trans (x2 _ (by omega))
  have qc : ∀ k, 12 ≤ k → k ≠ 43 → Q 15 k = F 15 k := fun k h1 h2 => (qk _ h2).trans (x2 _ (by omega))
  have qF : ∀ q, q ≠ 15 → Q q = F q := fun q hq => by rw [← hQ]; exact (u2n hq).trans (x1 q hq)
  have hwQ : ∀ m, m < a → Q 15 (6 + m) = -1 ∨ ∃ c, c < b ∧ Q 15 (6 + m) = nI c := fun m hm => by rw [qw m hm]; exact (h1 m hm).2.2.2
  have hiQ : ∀ m m', m < a → m' < a → Q 15 (6 + m) = Q 15 (6 + m') → ¬ Q 15 (6 + m) = -1 → m = m' := fun m m' hm hm' => by rw [qw m hm, qw m' hm']; exact h6 m m' hm hm'
  have hNQ : ∀ c, c < b → NBx 99 (Q 15 (12 + c)) ∧ NBx 99 (Q 15 (18 + c)) ∧ NBx 99 (Q 15 (30 + c)) := fun c hc => by
    rw [qc _ (by omega) (by omega), qc _ (by omega) (by omega), qc _ (by omega) (by omega)]
    exact ⟨(h2 c hc).1.2, (h2 c hc).2.1.2, (h2 c hc).2.2.2.2⟩
  have bw : ∀ m, m < a → B 24 (6 + m) = F1 24 (6 + m) := fun m hm => y2 _ (by omega)
  have hNB : ∀ c, c < b → NBx 99 (B 24 (12 + c)) ∧ NBx 99 (B 24 (18 + c)) ∧ NBx 99 (B 24 (30 + c)) := fun c hc => by
    rw [y2 _ (by omega), y2 _ (by omega), y2 _ (by omega), ← (h2 c hc).1.1, ← (h2 c hc).2.1.1, ← (h2 c hc).2.2.2.1]
    exact ⟨(h2 c hc).1.2, (h2 c hc).2.1.2, (h2 c hc).2.2.2.2⟩
  obtain ⟨E, e1, ⟨e2, e3⟩, e4⟩ := yWeat (NF := NF) (F1 := B) (w1 := w1) (g := g) (z := 1) (by decide) a2 a3 b2 b3 hNB
  generalize hY : upd2 E 24 (upd (E 24) 37 (E 24 37 + 1)) = Y at e4
  have yk : ∀ k, k ≠ 37 → Y 24 k = E 24 k := fun k hk => by rw [← hY, u2s, pk_un hk]
  have yF : ∀ q, q ≠ 24 → Y q = F1 q := fun q hq => by rw [← hY]; exact (u2n hq).trans ((e1 q hq).trans (y1 q hq))
  have y24 : ∀ k, (6 ≤ k ∧ k < 12) ∨ (24 ≤ k ∧ k < 30) ∨ k = 36 ∨ k = 38 → Y 24 k = F1 24 k := fun k hk => (yk k (by omega)).trans ((e2 k (by omega)).trans (y2 k (by omega)))
  obtain ⟨M, m1, ⟨m2, m3⟩, m4⟩ := xWeat1_1 (NF := NF) (F := Q) a1 a3 b1 b3 hwQ hiQ hNQ
  rw [if_neg hp, m4] at x4
  clear m4
  generalize hX : upd2 M 15 (upd (M 15) 42 (M 15 42 + 1)) = X at x4
  have xk : ∀ k, k ≠ 42 → X 15 k = M 15 k := fun k hk => by rw [← hX, u2s, pk_un hk]
  have xF : ∀ q, q ≠ 15 → X q = F q := fun q hq => by rw [← hX]; exact (u2n hq).trans ((m1 q hq).trans (qF q hq))
  have hday : NWS (D + 1) a b (X 15) (Y 24) := by
    refine NWS.day (x := F 15) (y := F1 24) (gx := fun m => F 9 (12 + m)) a3 b3 (z := 1) (by decide) (by omega) hn (fun m hm => ?_) (fun m hm => ?_) (fun k k1 k2 => ?_) (fun k k1 k2 => ?_) (fun c hc => ?_) (fun c hc => ?_) ?_ ?_
    · rw [xk m (by omega), m2 m (by omega), qk m (by omega)]; exact x3 m hm
    · rw [yk m (by omega), e2 m (by omega), y3 m hm, hG1 m hm]
    · rw [xk k (by omega), m2 k (by omega), qk k (by omega)]; exact x2 k (by omega)
    · exact y24 k (by omega)
    · have pc : (∃ m, m < a ∧ Q 15 (6 + m) = nI c) ↔ ∃ m, m < a ∧ F 15 (6 + m) = nI c := ⟨fun ⟨m, hm, em⟩ => ⟨m, hm, (qw m hm).symm.trans em⟩, fun ⟨m, hm, em⟩ => ⟨m, hm, (qw m hm).trans em⟩⟩
      have q := m3 c hc
      rw [qc (12 + c) (by omega) (by omega), qc (18 + c) (by omega) (by omega), qc (30 + c) (by omega) (by omega)] at q
      rw [xk (12 + c) (by omega), xk (18 + c) (by omega), xk (30 + c) (by omega)]
      exact ⟨fun h => q.1 (pc.mpr h), fun h => q.2 (fun h' => h (pc.mp h'))⟩
    · have pc : (∃ m, m < a ∧ B 24 (6 + m) = nI c) ↔ ∃ m, m < a ∧ F1 24 (6 + m) = nI c := ⟨fun ⟨m, hm, em⟩ => ⟨m, hm, (bw m hm).symm.trans em⟩, fun ⟨m, hm, em⟩ => ⟨m, hm, (bw m hm).trans em⟩⟩
      have q := e3 c hc
      rw [y2 (12 + c) (by omega), y2 (18 + c) (by omega), y2 (30 + c) (by omega)] at q
      rw [yk (12 + c) (by omega), yk (18 + c) (by omega), yk (30 + c) (by omega)]
      exact ⟨fun h => q.1 (pc.mpr h), fun h => q.2 (fun h' => h (pc.mp h'))⟩
    · rw [← hX, u2s, pk_us, m2 42 (by omega), qc 42 (by omega) (by omega)]
    · rw [← hY, u2s, pk_us, e2 37 (by omega), y2 37 (by omega)]
  obtain ⟨d1, d2, d3, d4, d6⟩ := hday.o a3 b3
  have cms := hday.cms a3 b3
  obtain ⟨Z, z1, z2, z3, z4⟩ := xShed1_62 (NF := NF) (v := v) (F := X) (v1 := v1) (F1 := Y) (w1 := w1) (g := g) a1 a3 b1 b3 sm sf hD (fun q hq => (xF q (by omega)).trans (hF q hq)) (fun q hq => (yF q (by omega)).trans (hF1 q (by omega))) cms (fun m hm => (d1 m hm).2.2.2)
  have hwY : ∀ m, m < a → Y 24 (6 + m) = X 15 (6 + m) ∧ (X 15 (6 + m) = -1 ∨ ∃ c, c < b ∧ X 15 (6 + m) = nI c) := fun m hm => ⟨(d1 m hm).2.2.1.symm, (d1 m hm).2.2.2⟩
  have wr := yWearers (NF := NF) (F1 := Y) (w1 := w1) (g := g) a2 a3 hwY b3
  obtain ⟨K, k1, k2⟩ := yFitted (NF := NF) (F1 := Y) (w1 := w1) (g := g) a1 a2 a3 b1 b3 sm sf es hD (fun q hq => (yF q (by omega)).trans (hF1 q (by omega))) cms hwY
  have an := bts_and (wrB (X 15)) (ftB (v 33) (yI NF v1 Y w1 g) (X 15)) a3
  have an : nI (bts (wrB (X 15)) a) &&& (nI (bts (ftB (v 33) (yI NF v1 Y w1 g) (X 15)) a) ^^^ (-1)) = nI (bts (shB (v 33) (yI NF v1 Y w1 g) (X 15)) a) := an
  obtain ⟨L, l1, l2, l3, l4⟩ := yShed (NF := NF) (F1 := K) (w1 := w1) (g := g) (p := shB (v 33) (yI NF v1 Y w1 g) (X 15)) a2 a3 a2
  have k24 : K 24 = Y 24 := k1 24 (by decide) (by decide)
  refine ⟨nI (bts (shB (v 33) (yI NF v1 Y w1 g) (X 15)) a), Z, L, x4.trans z4, ?_, fun q q1 q2 q3 => (z1 q q1 q2 q3).trans (xF q q3), fun q q1 q2 q3 => (l1 q q3).trans ((k1 q q1 q2).trans (yF q q3)), ?_, ?_, ?_⟩
  · rw [y4, e4]
    unfold yAft
    rw [k2]
    show gsY_X11_goDay_1_L22 NF v1 (gsY_X11_wearers_1 NF v1 Y w1 g &&& (nI (bts (ftB (v 33) (yI NF v1 Y w1 g) (X 15)) a) ^^^ (-1))) (4294967296 + NF) 0 v1 K w1 g = _
    rw [wr, an, l4]
  · refine hday.shed a3 b3 (p := shB (v 33) (yI NF v1 Y w1 g) (X 15)) z2 (fun k hk => ?_) z3 (fun m hm => ?_)
    · rw [l2 k hk, k24]
    · rw [l3 m hm, k24]
  · rw [z2 43 (by omega), xk 43 (by decide), m2 43 (by omega), q43]
  · rw [l2 38 (by omega), k24, y24 38 (by omega)]
theorem FREL.day {v : Nat → Int32} {f : Nat → Nat → Int32} {v1 : Nat → Int32} {f1 : Nat → Nat → Int32} {w1 : Int64} {g : Nat → Int64} {r r' : Int32} {u : (Nat → Int32) × (Nat → Nat → Int32)} {u' : (Nat → Int32) × (Nat → Nat → Int32) × Int64 × (Nat → Int64)} (h : FREL v f v1 f1) (e : gsX_X10_day_1 NF v f = (r, u)) (e' : gsY_X11_day_1 NF v1 f1 w1 g = (r', u')) : r = r' ∧ FREL u.1 u.2 u'.1 u'.2.1 := by
  have hh := h
  obtain ⟨hr, a, b, a1, a2, a3, b1, b2, b3, sm, sc, nw, ac, bx⟩ := h
  have nwd := nw.2.2.2.1
  obtain ⟨nd, d, hd, ed⟩ := nwd
  have td : gsX_X1_today_1 NF v f = nI d := by simp only [gsX_X1_today_1, cN42]; exact ed
  have y37 : f1 23 37 = nI d := nd.symm.trans ed
  by_cases c9 : d = 999
  · have eX : gsX_X10_day_1 NF v f = (-1, v, f) := by
      simp only [gsX_X10_day_1, td, if_neg (show ¬ nI d < (999 : Int32) from nI_nlt (b := 999) (by omega) (by omega))]
    have eY : gsY_X11_day_1 NF v1 f1 w1 g = (-1, v1, f1, w1, g) := by
      simp only [gsY_X11_day_1, cN37, y37, if_pos (show nI d = (999 : Int32) by rw [c9]; rfl)]
    rw [eX] at e
    rw [eY] at e'
    cases e; cases e'
    exact ⟨rfl, hh⟩
  · have x9 : nI d < (999 : Int32) := nI_lt (b := 999) (by omega) (by decide)
    have y9 : ¬ nI d = (999 : Int32) := nlit 999 999 rfl (by omega) (by decide) c9
    have ac' := ac
    rcases ac' with ⟨p, dd, uu, hp, hdu, h21, h22, h23, h35, rest⟩
    obtain ⟨d', Y, Z, y1, y2, y3, y4, y5, y6, y7⟩ := yAct (NF := NF) (F := f1) (W := w1) (G := g) h35 (by omega)
    obtain ⟨sd1, sd2⟩ := nw.2.2.2.2.1
    have z38 : Z 24 38 = f 15 43 := (y6 38 (by decide)).trans sd1.symm
    have eD : gsY_X11_drawRain_1 NF Y Z w1 g = ((if Y 29 ≤ dr2 (f 15 43) then 0 else 1), Y, upd2 Z 24 (upd (Z 24) 38 (dr1 (f 15 43))), w1, g) := by
      simp only [gsY_X11_drawRain_1, cN38, u2s, pk_us, z38]
      show (if Y 29 ≤ dr2 (f 15 43) then ((0 : Int32), Y, _, w1, g) else (1, Y, _, w1, g)) = _
      by_cases q : Y 29 ≤ dr2 (f 15 43)
      · rw [if_pos q, if_pos q]; rfl
      · rw [if_neg q, if_neg q]; rfl
    generalize hZ : upd2 Z 24 (upd (Z 24) 38 (dr1 (f 15 43))) = A at eD
    have aF : ∀ q, q ≠ 24 → q ≠ 25 → A q = f1 q := fun q q1 q2 => by rw [← hZ]; exact (u2n q1).trans (y5 q q1 q2)
    have a24 : ∀ k, k < 38 → A 24 k = f1 23 k := fun k hk => by rw [← hZ, u2s, pk_un (by omega)]; exact y6 k (by omega)
    have a38 : A 24 38 = dr1 (f 15 43) := by rw [← hZ, u2s, pk_us]
    have nA : NWS 999 a b (f 15) (A 24) := by
      obtain ⟨n1, n2, n3, n4, n6⟩ := (nw.s a3 b3).o a3 b3
      obtain ⟨T, t1, t2, t3⟩ := n3
      exact NWS.of a3 b3 (fun m hm => by rw [a24 m (by omega), a24 (6 + m) (by omega)]; exact n1 m hm) (fun c hc => by rw [a24 (12 + c) (by omega), a24 (18 + c) (by omega), a24 (24 + c) (by omega), a24 (30 + c) (by omega)]; exact n2 c hc) ⟨T, t1, by rw [a24 36 (by decide)]; exact t2, t3⟩ (by rw [a24 37 (by decide)]; exact n4) n6
    have nA' : NWS 998 a b (f 15) (A 24) := by
      obtain ⟨n1, n2, n3, ⟨n4, _⟩, n6⟩ := nA.o a3 b3
      exact NWS.of a3 b3 n1 n2 n3 ⟨n4, d, by omega, ed⟩ n6
    have e29 : Y 29 = v 36 := (y4 29 (by decide) (by decide)).trans hr.2.1.2.1.2.2.2.1.symm
    have a2' : Y 24 = nI a := (y4 24 (by decide) (by decide)).trans a2
    have b2' : Y 25 = nI b := (y4 25 (by decide) (by decide)).trans b2
    have sf' : STF v f Y f1 := by
      have q := hr.2.1.2.2
      unfold STF at q ⊢
      rw [y4 16 (by decide) (by decide), y4 9 (by decide) (by decide)]
      exact q
    have es' : v 33 = Y 26 := hr.2.1.2.1.1.trans (y4 26 (by decide) (by decide)).symm
    have both : ∃ (z : Nat) (R : Int32) (F' F1' : Nat → Nat → Int32), (if Y 29 ≤ dr2 (f 15 43) then (0 : Int32) else 1) = nI z ∧ z ≤ 1 ∧ gsX_X1_passDay_1 NF (v 36) v f = (R, v, F') ∧ gsY_X11_goDay_1 NF (nI z) Y A w1 g = (R, Y, F1', w1, g) ∧ (∀ q, q ≠ 13 → q ≠ 14 → q ≠ 15 → F' q = f q) ∧ (∀ q, q ≠ 7 → q ≠ 8 → q ≠ 24 → F1' q = A q) ∧ NWS (998 + 1) a b (F' 15) (F1' 24) ∧ F' 15 43 = dr1 (f 15 43) ∧ F1' 24 38 = A 24 38 := by
      rw [e29]
      by_cases q : v 36 ≤ dr2 (f 15 43)
      · obtain ⟨R, F', F1', r1, r2, r3, r4, r5, r6, r7⟩ := dayB1_0 (NF := NF) (w1 := w1) (g := g) a1 a2' a3 b1 b2' b3 sm sf' es' (by decide) (fun q _ => rfl) (fun q hq => aF q (by omega) (by omega)) nA' q
        exact ⟨0, R, F', F1', if_pos q, by decide, r1, r2, r3, r4, r5, r6, r7⟩
      · obtain ⟨R, F', F1', r1, r2, r3, r4, r5, r6, r7⟩ := dayB1_1 (NF := NF) (w1 := w1) (g := g) a1 a2' a3 b1 b2' b3 sm sf' es' (by decide) (fun q _ => rfl) (fun q hq => aF q (by omega) (by omega)) nA' q
        exact ⟨1, R, F', F1', if_neg q, by decide, r1, r2, r3, r4, r5, r6, r7⟩
    obtain ⟨z, R, F', F1', ez, hz, r1, r2, r3, r4, r5, r6, r7⟩ := both
    rw [ez] at eD
    obtain ⟨K, k1, k2, k3⟩ := yKeepAir (NF := NF) (V := Y) (F0 := F1') (W := w1) (G := g)
    rcases hk : gsX_X5_keepAct_1 NF v F' with ⟨V', F''⟩
    have eX : gsX_X10_day_1 NF v f = (R, V', F'') := by
      simp only [gsX_X10_day_1, td, if_pos x9, r1, hk]
    have eY : gsY_X11_day_1 NF v1 f1 w1 g = (R, Y, K, w1, g) := by
      simp only [gsY_X11_day_1, cN37, y37, if_neg y9, y1, eD]
      rcases (show z = 0 ∨ z = 1 by omega) with q | q
      · subst q
        have r2 : gsY_X11_goDay_1 NF 0 Y A w1 g = (R, Y, F1', w1, g) := r2
        rw [if_neg (show ¬ nI 0 = (1 : Int32) by decide)]
        simp only [r2, k3]
      · subst q
        have r2 : gsY_X11_goDay_1 NF 1 Y A w1 g = (R, Y, F1', w1, g) := r2
        rw [if_pos (show nI 1 = (1 : Int32) from rfl)]
        simp only [r2, k3]
    rw [eX] at e
    rw [eY] at e'
    cases e; cases e'
    refine ⟨rfl, hh.act (F2 := K) r3 (fun q _ => rfl) hk y1 (fun q q1 q2 q3 q4 => ?_) (fun a' b' a1' _ b1' _ a3' b3' _ _ nw' => ?_)⟩
    · rw [k1 q q3, r4 q q1 q2 q4, ← hZ]; exact u2n q4
    · have ea : a' = a := (nI_eq (by omega) (by omega)).mp (a1'.symm.trans a1)
      have eb : b' = b := (nI_eq (by omega) (by omega)).mp (b1'.symm.trans b1)
      subst ea eb
      have nr : NWR 999 a' b' (F' 15) (F1' 24) := r5.r a3 b3 ⟨by rw [r6, r7, a38], by rw [r6]; exact dr1_NB sd2⟩
      exact nr.cg a3 b3 (fun _ _ => rfl) (fun k hk => k2 k hk)
end
