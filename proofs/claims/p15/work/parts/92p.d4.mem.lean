section
variable {NF : Nat} {v : Nat → Int32} {f : Nat → Nat → Int32} {v1 : Nat → Int32} {f1 : Nat → Nat → Int32} {w1 : Int64} {g : Nat → Int64} {r r' : Int32} {u : (Nat → Int32) × (Nat → Nat → Int32)} {u' : (Nat → Int32) × (Nat → Nat → Int32) × Int64 × (Nat → Int64)}
theorem yExch {V : Nat → Int32} {F0 : Nat → Nat → Int32} {W : Int64} {G : Nat → Int64} {o : Nat} (ho : o < 100000) : ∃ F' : Nat → Nat → Int32, (∀ q, q ≠ 23 → q ≠ 25 → F' q = F0 q) ∧ (∀ i, ¬ (o ≤ i ∧ i < o + 39) → F' 25 i = F0 25 i) ∧ (∀ k, k < 39 → F' 25 (o + k) = F0 23 k ∧ F' 23 k = F0 25 (o + k)) ∧ gsY_X11_exchange_1 NF (nI o) V F0 W G = (V, F', W, G) := by
  refine lpQ (S := SY) (fun fu i s => gsY_X11_exchange_1_L1 NF (nI o) fu i s.1 s.2.1 s.2.2.1 s.2.2.2) (fun r => ∃ F' : Nat → Nat → Int32, (∀ q, q ≠ 23 → q ≠ 25 → F' q = F0 q) ∧ (∀ i, ¬ (o ≤ i ∧ i < o + 39) → F' 25 i = F0 25 i) ∧ (∀ k, k < 39 → F' 25 (o + k) = F0 23 k ∧ F' 23 k = F0 25 (o + k)) ∧ r = (V, F', W, G)) (fun j s => ∃ F' : Nat → Nat → Int32, s = (V, F', W, G) ∧ (∀ q, q ≠ 23 → q ≠ 25 → F' q = F0 q) ∧ (∀ i, ¬ (o ≤ i ∧ i < o + 39) → F' 25 i = F0 25 i) ∧ (∀ k, k < j → F' 25 (o + k) = F0 23 k ∧ F' 23 k = F0 25 (o + k)) ∧ (∀ k, j ≤ k → k < 39 → F' 25 (o + k) = F0 25 (o + k) ∧ F' 23 k = F0 23 k)) 39 ?_ ?_ 39 0 (4294967296 + NF) (V, F0, W, G) (by omega) (by omega) ⟨F0, rfl, fun q _ _ => rfl, fun i _ => rfl, fun k hk => absurd hk (Nat.not_lt_zero _), fun k _ _ => ⟨rfl, rfl⟩⟩
  · intro fu j s hj hs
    obtain ⟨y, rfl, hF, hO, hK, hL⟩ := hs
    refine Or.inl ⟨(V, upd2 (upd2 y 25 (upd (y 25) (o + j) (y 23 j))) 23 (upd (y 23) j (y 25 (o + j))), W, G), ⟨_, rfl, ?_, ?_, ?_, ?_⟩, ?_⟩
    · intro q h1 h2
      exact (u2n h1).trans ((u2n h2).trans (hF q h1 h2))
    · intro i hi
      show upd (y 25) (o + j) (y 23 j) i = _
      rw [pk_un (by omega)]
      exact hO i hi
    · intro k hk
      show upd (y 25) (o + j) (y 23 j) (o + k) = _ ∧ upd (y 23) j (y 25 (o + j)) k = _
      by_cases e : k = j
      · rw [e, pk_us, pk_us]
        exact ⟨(hL j (Nat.le_refl _) hj).2, (hL j (Nat.le_refl _) hj).1⟩
      · rw [pk_un (by omega), pk_un e]
        exact hK k (by omega)
    · intro k h1 h2
      show upd (y 25) (o + j) (y 23 j) (o + k) = _ ∧ upd (y 23) j (y 25 (o + j)) k = _
      rw [pk_un (by omega), pk_un (by omega)]
      exact hL k (by omega) h2
    · show gsY_X11_exchange_1_L1 NF (nI o) (fu + 1) (nI j) V y W G = gsY_X11_exchange_1_L1 NF (nI o) fu (nI (j + 1)) V _ W G
      simp only [gsY_X11_exchange_1_L1]
      rw [if_neg (show ¬ (39 : Int32) ≤ nI j from lit_nle (b := 39) rfl hj (by decide)), nI_1, nI_add, nI_clamp (show o + j < 2 ^ 31 by omega), nI_clamp (show j < 2 ^ 31 by omega)]
      all_goals rfl
  · intro fu s hs
    obtain ⟨y, rfl, hF, hO, hK, hL⟩ := hs
    refine ⟨y, hF, hO, hK, ?_⟩
    show gsY_X11_exchange_1_L1 NF (nI o) (fu + 1) (nI 39) V y W G = _
    simp only [gsY_X11_exchange_1_L1]
    rw [if_pos (show (39 : Int32) ≤ nI 39 from lit_le (b := 39) rfl (Nat.le_refl _) (by decide))]
theorem xLoad {V : Nat → Int32} {F : Nat → Nat → Int32} {q : Nat} (hq : q < 41) : gsX_X1_loadFrom_1 NF (nI q) V F = (V, upd2 F 15 (va_cpy (F 17) (F 15) (q * 44) 0 44)) := by
  simp only [gsX_X1_loadFrom_1]
  rw [if_neg (show ¬ nI q < (0 : Int32) from nI_pos (by omega)), if_neg (show ¬ (41 : Int32) ≤ nI q from lit_nle (b := 41) rfl hq (by decide)), show nI q * 44 = nI (q * 44) from nI_mulI q 44, nI_clamp (by omega), cN0, show (44 : Int32).toNatClampNeg = 44 from by decide]
theorem m41 {n : Nat} (hn : n < 2 ^ 31) : nI n - nI n / 41 * 41 = nI (n % 41) := nI_modI (b := 41) hn (by decide)
theorem FREL.row {V' : Nat → Int32} {F' : Nat → Nat → Int32} {V1' : Nat → Int32} {F1' : Nat → Nat → Int32} (h : FREL v f v1 f1) (hV : ∀ k, k ≠ 21 → k ≠ 22 → k ≠ 23 → V' k = v k) (hF : ∀ q, q ≠ 15 → q ≠ 17 → F' q = f q) (hV1 : ∀ k, k ≠ 35 → k ≠ 36 → V1' k = v1 k) (hF1 : ∀ q, q ≠ 23 → q ≠ 25 → F1' q = f1 q) (hn : ∀ a b, v 31 = nI a → v 32 = nI b → a ≤ 6 → b ≤ 6 → NWR 999 a b (f 15) (f1 23) → ACT a b v f v1 f1 → BOX a b v f f1 → NWR 999 a b (F' 15) (F1' 23) ∧ ACT a b V' F' V1' F1') : FREL V' F' V1' F1' := by
  obtain ⟨hr, a, b, a1, a2, a3, b1, b2, b3, sm, sc, nw, ac, bx⟩ := h
  obtain ⟨n1, n2⟩ := hn a b a1 b1 a3 b3 nw ac bx
  refine ⟨hr.keep (fun k hk => hV k (kx_ne hk rfl) (kx_ne hk rfl) (kx_ne hk rfl)) (fun k hk => hF k (kx_ne hk rfl) (kx_ne hk rfl)) (fun k hk => hV1 k (kx_ne hk rfl) (kx_ne hk rfl)) (fun k hk => hF1 k (kx_ne hk rfl) (kx_ne hk rfl)), a, b, (hV 31 (by decide) (by decide) (by decide)).trans a1, (hV1 24 (by decide) (by decide)).trans a2, a3, (hV 32 (by decide) (by decide) (by decide)).trans b1, (hV1 25 (by decide) (by decide)).trans b2, b3, ?_, ?_, n1, n2, ?_⟩
  · unfold STM; rw [hF 9 (by decide) (by decide), hF1 16 (by decide) (by decide), hF1 17 (by decide) (by decide), hF1 18 (by decide) (by decide)]; exact sm
  · unfold STC; rw [hF 10 (by decide) (by decide), hF1 19 (by decide) (by decide), hF1 20 (by decide) (by decide), hF1 21 (by decide) (by decide), hF1 22 (by decide) (by decide)]; exact sc
  · unfold BOX; rw [hV 20 (by decide) (by decide) (by decide), hF 16 (by decide) (by decide), hF1 36 (by decide) (by decide), hF1 37 (by decide) (by decide)]; exact bx
theorem FREL.undo (h : FREL v f v1 f1) (e : gsX_X10_undo_1 NF v f = (r, u)) (e' : gsY_X11_undo_1 NF v1 f1 w1 g = (r', u')) : r = r' ∧ FREL u.1 u.2 u'.1 u'.2.1 := by
  have hh := h
  obtain ⟨hr, a, b, a1, a2, a3, b1, b2, b3, sm, sc, nw, ⟨p, d, s, hp, hds, h21, h22, h23, h35, h36, rr, rs, rl⟩, bx⟩ := h
  by_cases c : d = 0
  · subst c
    have eX : gsX_X10_undo_1 NF v f = (0, v, f) := by
      simp only [gsX_X10_undo_1, gsX_X5_stepBack_1, h22, if_pos (show nI 0 = (0 : Int32) from rfl), ite01]
    have eY : gsY_X11_undo_1 NF v1 f1 w1 g = (0, v1, f1, w1, g) := by
      simp only [gsY_X11_undo_1, h35, if_pos (show nI 0 = (0 : Int32) from rfl)]
    rw [eX] at e
    rw [eY] at e'
    cases e; cases e'
    exact ⟨rfl, hh⟩
  · have n0 : ¬ nI d = (0 : Int32) := nI_ne0 (by omega) (by omega)
    have sd : nI d - 1 = nI (d - 1) := nI_subI (b := 1) (by omega)
    obtain ⟨Z, z1, z2, z3, z4⟩ := yExch (NF := NF) (V := upd (upd v1 35 (nI (d - 1))) 36 (nI (s + 1))) (F0 := f1) (W := w1) (G := g) (o := 39 * (d - 1)) (by omega)
    have eX : gsX_X10_undo_1 NF v f = (1, upd (upd v 22 (nI (d - 1))) 23 (nI (s + 1)), upd2 f 15 (va_cpy (f 17) (f 15) ((p + (d - 1)) % 41 * 44) 0 44)) := by
      simp only [gsX_X10_undo_1, gsX_X5_stepBack_1, h21, h22, h23, if_neg n0, sd, nI_1, nI_add, m41 (show p + (d - 1) < 2 ^ 31 by omega), xLoad (NF := NF) (F := f) (show (p + (d - 1)) % 41 < 41 from Nat.mod_lt _ (by decide)), ite11, if_true]
    have eY : gsY_X11_undo_1 NF v1 f1 w1 g = (1, upd (upd v1 35 (nI (d - 1))) 36 (nI (s + 1)), Z, w1, g) := by
      simp only [gsY_X11_undo_1, h35, h36, if_neg n0, sd, nI_1, show (39 : Int32) * nI (d - 1) = nI (39 * (d - 1)) from nI_mulI 39 (d - 1), z4]
    rw [eX] at e
    rw [eY] at e'
    cases e; cases e'
    refine ⟨rfl, hh.row (fun k k1 k2 k3 => (pk_un k3).trans (pk_un k2)) (fun q q1 _ => u2n q1) (fun k k1 k2 => (pk_un k2).trans (pk_un k1)) z1 (fun a' b' a1' b1' a3' b3' nw' ac' _ => ?_)⟩
    have ea : a' = a := (nI_eq (by omega) (by omega)).mp (a1'.symm.trans a1)
    have eb : b' = b := (nI_eq (by omega) (by omega)).mp (b1'.symm.trans b1)
    subst ea eb
    refine ⟨(rr (d - 1) (by omega)).cg a3 b3 (fun k hk => ?_) (fun k hk => (z3 k hk).2), p, d - 1, s + 1, hp, by omega, h21, rfl, rfl, rfl, rfl, fun i hi => ?_, fun i h1 h2 => ?_, fun k hk => ?_⟩
    · exact cpy_from hk
    · refine (rr i (by omega)).cg a3 b3 (fun k hk => rfl) (fun k hk => ?_)
      exact z2 _ (by omega)
    · by_cases ei : i = d - 1
      · subst ei
        refine nw.cg a3 b3 (fun k hk => ?_) (fun k hk => (z3 k hk).1)
        show f 17 ((p + (d - 1) + 1) % 41 * 44 + k) = f 15 k
        rw [show p + (d - 1) + 1 = p + d by omega]
        exact rl k hk
      · refine (rs i (by omega) (by omega)).cg a3 b3 (fun k hk => rfl) (fun k hk => ?_)
        exact z2 _ (by omega)
    · exact (cpy_from hk).symm
theorem FREL.redo (h : FREL v f v1 f1) (e : gsX_X10_redo_1 NF v f = (r, u)) (e' : gsY_X11_redo_1 NF v1 f1 w1 g = (r', u')) : r = r' ∧ FREL u.1 u.2 u'.1 u'.2.1 := by
  have hh := h
  obtain ⟨hr, a, b, a1, a2, a3, b1, b2, b3, sm, sc, nw, ⟨p, d, s, hp, hds, h21, h22, h23, h35, h36, rr, rs, rl⟩, bx⟩ := h
  by_cases c : s = 0
  · subst c
    have eX : gsX_X10_redo_1 NF v f = (0, v, f) := by
      simp only [gsX_X10_redo_1, gsX_X5_stepOn_1, h23, if_pos (show nI 0 = (0 : Int32) from rfl), ite01]
    have eY : gsY_X11_redo_1 NF v1 f1 w1 g = (0, v1, f1, w1, g) := by
      simp only [gsY_X11_redo_1, h36, if_pos (show nI 0 = (0 : Int32) from rfl)]
    rw [eX] at e
    rw [eY] at e'
    cases e; cases e'
    exact ⟨rfl, hh⟩
  · have n0 : ¬ nI s = (0 : Int32) := nI_ne0 (by omega) (by omega)
    have sd : nI s - 1 = nI (s - 1) := nI_subI (b := 1) (by omega)
    obtain ⟨Z, z1, z2, z3, z4⟩ := yExch (NF := NF) (V := v1) (F0 := f1) (W := w1) (G := g) (o := 39 * d) (by omega)
    have eX : gsX_X10_redo_1 NF v f = (1, upd (upd v 22 (nI (d + 1))) 23 (nI (s - 1)), upd2 f 15 (va_cpy (f 17) (f 15) ((p + (d + 1)) % 41 * 44) 0 44)) := by
      simp only [gsX_X10_redo_1, gsX_X5_stepOn_1, h21, h22, h23, if_neg n0, sd, nI_1, nI_add, m41 (show p + (d + 1) < 2 ^ 31 by omega), xLoad (NF := NF) (F := f) (show (p + (d + 1)) % 41 < 41 from Nat.mod_lt _ (by decide)), ite11, if_true]
    have eY : gsY_X11_redo_1 NF v1 f1 w1 g = (1, upd (upd v1 35 (nI (d + 1))) 36 (nI (s - 1)), Z, w1, g) := by
      simp only [gsY_X11_redo_1, h35, h36, if_neg n0, sd, nI_1, show (39 : Int32) * nI d = nI (39 * d) from nI_mulI 39 d, z4]
    rw [eX] at e
    rw [eY] at e'
    cases e; cases e'
    refine ⟨rfl, hh.row (fun k k1 k2 k3 => (pk_un k3).trans (pk_un k2)) (fun q q1 _ => u2n q1) (fun k k1 k2 => (pk_un k2).trans (pk_un k1)) z1 (fun a' b' a1' b1' a3' b3' nw' ac' _ => ?_)⟩
    have ea : a' = a := (nI_eq (by omega) (by omega)).mp (a1'.symm.trans a1)
    have eb : b' = b := (nI_eq (by omega) (by omega)).mp (b1'.symm.trans b1)
    subst ea eb
    refine ⟨(rs d (Nat.le_refl _) (by omega)).cg a3 b3 (fun k hk => ?_) (fun k hk => (z3 k hk).2), p, d + 1, s - 1, hp, by omega, h21, rfl, rfl, rfl, rfl, fun i hi => ?_, fun i h1 h2 => ?_, fun k hk => ?_⟩
    · exact cpy_from hk
    · by_cases ei : i = d
      · subst ei
        exact nw.cg a3 b3 (fun k hk => rl k hk) (fun k hk => (z3 k hk).1)
      · refine (rr i (by omega)).cg a3 b3 (fun k hk => rfl) (fun k hk => ?_)
        exact z2 _ (by omega)
    · refine (rs i (by omega) (by omega)).cg a3 b3 (fun k hk => rfl) (fun k hk => ?_)
      exact z2 _ (by omega)
    · exact (cpy_from hk).symm
end
