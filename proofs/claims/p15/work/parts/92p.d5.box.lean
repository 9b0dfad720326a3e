section
variable {NF : Nat} {v : Nat → Int32} {f : Nat → Nat → Int32} {v1 : Nat → Int32} {f1 : Nat → Nat → Int32} {w1 : Int64} {g : Nat → Int64} {r r' : Int32} {u : (Nat → Int32) × (Nat → Nat → Int32)} {u' : (Nat → Int32) × (Nat → Nat → Int32) × Int64 × (Nat → Int64)}
theorem bitB : ∀ T, T < 8 → ∀ i, i < 3 → ((nI T >>> (nI i &&& 31)) &&& 1 = nI (T / 2 ^ i % 2)) ∧ nI T ||| ((1 : Int32) <<< (nI i &&& 31)) = nI (T + (1 - T / 2 ^ i % 2) * 2 ^ i) ∧ T + (1 - T / 2 ^ i % 2) * 2 ^ i < 8 ∧ ∀ k, k < 3 → (T + (1 - T / 2 ^ i % 2) * 2 ^ i) / 2 ^ k % 2 = if k = i then 1 else T / 2 ^ k % 2 := by decide +kernel
theorem nar1 : vp_nar .boolean 1 = 1 := by decide
theorem nar0 : vp_nar .boolean 0 = 0 := by decide
theorem FREL.image {p : Int32} (h : FREL v f v1 f1) (e : gsX_X10_image_1 NF p v f = (r, u)) (e' : gsY_X11_image_1 NF p v1 f1 w1 g = (r', u')) : r = r' ∧ FREL u.1 u.2 u'.1 u'.2.1 := by
  have hh := h
  obtain ⟨hr, a, b, a1, a2, a3, b1, b2, b3, sm, sc, nw, ac, ⟨T, hT, t20, tb⟩⟩ := h
  rcases in_cases p 3 with ⟨i, hi, rfl⟩ | n
  · have x0 : ¬ nI i < (0 : Int32) := nI_pos (by omega)
    have x3 : nI i < (3 : Int32) := nI_lt (b := 3) hi (by decide)
    have y3 : ¬ (3 : Int32) ≤ nI i := lit_nle (b := 3) rfl hi (by decide)
    obtain ⟨B1, B2, B3, B4⟩ := bitB T hT i hi
    have ci : (nI i).toNatClampNeg = i := nI_clamp (by omega)
    have sv : gsX_X1_saveTo_2 NF (nI i) v f = (v, upd2 f 16 (va_cpy (f 15) (f 16) 0 (i * 44) 44)) := by
      simp only [gsX_X1_saveTo_2]
      rw [if_neg x0, if_neg y3, show nI i * 44 = nI (i * 44) from nI_mulI i 44, nI_clamp (by omega), cN0, show (44 : Int32).toNatClampNeg = 44 from by decide]
    obtain ⟨Z, z1, z2, z3, z4⟩ := yImg (NF := NF) (pp := nI i) (V := v1) (F0 := upd2 f1 36 (upd (f1 36) i 1)) (W := w1) (G := g) (o := 39 * i) (by omega) (nI_mulI 39 i)
    have eX : gsX_X10_image_1 NF (nI i) v f = (f 15 42, upd v 20 (nI (T + (1 - T / 2 ^ i % 2) * 2 ^ i)), upd2 f 16 (va_cpy (f 15) (f 16) 0 (i * 44) 44)) := by
      simp only [gsX_X10_image_1, gsX_X5_fillBox_1, if_neg x0, if_pos x3, sv, t20, B2, ite11, if_true, gsX_X1_today_1, cN42]
      rfl
    have eY : gsY_X11_image_1 NF (nI i) v1 f1 w1 g = (Z 23 37, v1, Z, w1, g) := by
      simp only [gsY_X11_image_1, gsY_X11_isBox_1, if_neg x0, if_neg y3, ite11, if_true, ci, nar1, z4, cN37]
    rw [eX] at e
    rw [eY] at e'
    cases e; cases e'
    show f 15 42 = Z 23 37 ∧ FREL (upd v 20 (nI (T + (1 - T / 2 ^ i % 2) * 2 ^ i))) (upd2 f 16 (va_cpy (f 15) (f 16) 0 (i * 44) 44)) v1 Z
    refine ⟨by rw [z1 23 (by decide)]; exact nw.2.2.2.1.1, hr.keep (fr_u rfl) (fr_u2 rfl) (fun _ _ => rfl) (fun k hk => (z1 k (kx_ne hk rfl)).trans (fr_u2 (N := YAF) rfl k hk)), a, b, a1, a2, a3, b1, b2, b3, ?_, ?_, ?_, ?_, T + (1 - T / 2 ^ i % 2) * 2 ^ i, B3, rfl, fun k hk => ?_⟩
    · unfold STM; rw [z1 16 (by decide), z1 17 (by decide), z1 18 (by decide)]; exact sm
    · unfold STC; rw [z1 19 (by decide), z1 20 (by decide), z1 21 (by decide), z1 22 (by decide)]; exact sc
    · show NWR 999 a b (f 15) (Z 23)
      rw [z1 23 (by decide)]; exact nw
    · unfold ACT; rw [z1 25 (by decide)]; exact ac
    · rw [B4 k hk]
      have z36 : Z 36 k = upd (f1 36) i 1 k := by rw [z1 36 (by decide)]; rfl
      have z37 : ∀ j, ¬ (39 * i ≤ j ∧ j < 39 * i + 39) → Z 37 j = f1 37 j := fun j hj => (z2 j hj).trans rfl
      by_cases ek : k = i
      · rw [if_pos ek, z36, ek, pk_us]
        refine ⟨rfl, fun _ => nw.cg a3 b3 (fun j hj => ?_) (fun j hj => ?_)⟩
        · exact cpy_at hj
        · exact z3 j hj
      · rw [if_neg ek, z36, pk_un ek]
        obtain ⟨q1, q2⟩ := tb k hk
        refine ⟨q1, fun q => (q2 q).cg a3 b3 (fun j hj => ?_) (fun j hj => ?_)⟩
        · exact cpy_off (by omega)
        · exact z37 _ (by omega)
  · have eX : gsX_X10_image_1 NF p v f = (-1, v, f) := by
      by_cases c : p < 0
      · simp only [gsX_X10_image_1, gsX_X5_fillBox_1, if_pos c, ite01]
      · obtain ⟨P, hP, rfl⟩ := nI_of c
        have x3 : ¬ nI P < (3 : Int32) := fun z => n ⟨P, (nI_ltI (b := 3) hP (by decide)).mp z, rfl⟩
        simp only [gsX_X10_image_1, gsX_X5_fillBox_1, if_neg c, if_neg x3, ite01]
    have eY : gsY_X11_image_1 NF p v1 f1 w1 g = (-1, v1, f1, w1, g) := by
      by_cases c : p < 0
      · simp only [gsY_X11_image_1, gsY_X11_isBox_1, if_pos c, ite01]
      · obtain ⟨P, hP, rfl⟩ := nI_of c
        have x3 : (3 : Int32) ≤ nI P := lit_le (b := 3) rfl (Nat.le_of_not_lt (fun z => n ⟨P, z, rfl⟩)) hP
        simp only [gsY_X11_image_1, gsY_X11_isBox_1, if_neg c, if_pos x3, ite01]
    rw [eX] at e
    rw [eY] at e'
    cases e; cases e'
    exact ⟨rfl, hh⟩
theorem yBack {V : Nat → Int32} {F0 : Nat → Nat → Int32} {W : Int64} {G : Nat → Int64} {i : Nat} (hi : i < 3) : ∃ F' : Nat → Nat → Int32, (∀ q, q ≠ 23 → F' q = F0 q) ∧ (∀ k, k < 39 → F' 23 k = F0 37 (39 * i + k)) ∧ gsY_X11_back_1_L6 NF (nI i) (4294967296 + NF) 0 V F0 W G = (F' 23 (37 : Int32).toNatClampNeg, upd (upd V 35 0) 36 0, F', W, G) := by
  refine lpQ (S := SY) (fun fu j s => gsY_X11_back_1_L6 NF (nI i) fu j s.1 s.2.1 s.2.2.1 s.2.2.2) (fun r => ∃ F' : Nat → Nat → Int32, (∀ q, q ≠ 23 → F' q = F0 q) ∧ (∀ k, k < 39 → F' 23 k = F0 37 (39 * i + k)) ∧ r = (F' 23 (37 : Int32).toNatClampNeg, upd (upd V 35 0) 36 0, F', W, G)) (fun j s => ∃ F' : Nat → Nat → Int32, s = (V, F', W, G) ∧ (∀ q, q ≠ 23 → F' q = F0 q) ∧ (∀ k, k < j → F' 23 k = F0 37 (39 * i + k))) 39 ?_ ?_ 39 0 (4294967296 + NF) (V, F0, W, G) (by omega) (by omega) ⟨F0, rfl, fun q _ => rfl, fun k hk => absurd hk (Nat.not_lt_zero _)⟩
  · intro fu j s hj hs
    obtain ⟨y, rfl, hF, hK⟩ := hs
    refine Or.inl ⟨(V, upd2 y 23 (upd (y 23) j (y 37 (39 * i + j))), W, G), ⟨_, rfl, ?_, ?_⟩, ?_⟩
    · intro q hq
      exact (u2n hq).trans (hF q hq)
    · intro k hk
      show upd (y 23) j (y 37 (39 * i + j)) k = _
      by_cases e : k = j
      · rw [e, pk_us, hF 37 (by decide)]
      · rw [pk_un e]
        exact hK k (by omega)
    · show gsY_X11_back_1_L6 NF (nI i) (fu + 1) (nI j) V y W G = gsY_X11_back_1_L6 NF (nI i) fu (nI (j + 1)) V _ W G
      simp only [gsY_X11_back_1_L6]
      rw [if_neg (show ¬ (39 : Int32) ≤ nI j from lit_nle (b := 39) rfl hj (by decide)), nI_1, show (39 : Int32) * nI i = nI (39 * i) from nI_mulI 39 i, nI_add, nI_clamp (show 39 * i + j < 2 ^ 31 by omega), nI_clamp (show j < 2 ^ 31 by omega)]
  · intro fu s hs
    obtain ⟨y, rfl, hF, hK⟩ := hs
    refine ⟨y, hF, hK, ?_⟩
    show gsY_X11_back_1_L6 NF (nI i) (fu + 1) (nI 39) V y W G = _
    simp only [gsY_X11_back_1_L6]
    rw [if_pos (show (39 : Int32) ≤ nI 39 from lit_le (b := 39) rfl (Nat.le_refl _) (by decide))]
theorem FREL.back {p : Int32} (h : FREL v f v1 f1) (e : gsX_X10_back_1 NF p v f = (r, u)) (e' : gsY_X11_back_1 NF p v1 f1 w1 g = (r', u')) : r = r' ∧ FREL u.1 u.2 u'.1 u'.2.1 := by
  have hh := h
  obtain ⟨hr, a, b, a1, a2, a3, b1, b2, b3, sm, sc, nw, ac, ⟨T, hT, t20, tb⟩⟩ := h
  have bad : gsX_X10_back_1 NF p v f = (-1, v, f) → gsY_X11_back_1 NF p v1 f1 w1 g = (-1, v1, f1, w1, g) → r = r' ∧ FREL u.1 u.2 u'.1 u'.2.1 := fun x y => by
    rw [x] at e
    rw [y] at e'
    cases e; cases e'
    exact ⟨rfl, hh⟩
  rcases in_cases p 3 with ⟨i, hi, rfl⟩ | n
  · have x0 : ¬ nI i < (0 : Int32) := nI_pos (by omega)
    have y3 : ¬ (3 : Int32) ≤ nI i := lit_nle (b := 3) rfl hi (by decide)
    obtain ⟨B1, _, _, _⟩ := bitB T hT i hi
    have ci : (nI i).toNatClampNeg = i := nI_clamp (by omega)
    obtain ⟨q1, q2⟩ := tb i hi
    by_cases c : T / 2 ^ i % 2 = 1
    · have n0 : ¬ nI 1 = (0 : Int32) := by decide
      rw [c] at B1 q1
      have nb := q2 c
      have ld : gsX_X1_loadFrom_2 NF (nI i) v f = (v, upd2 f 15 (va_cpy (f 16) (f 15) (i * 44) 0 44)) := by
        simp only [gsX_X1_loadFrom_2]
        rw [if_neg x0, if_neg y3, show nI i * 44 = nI (i * 44) from nI_mulI i 44, nI_clamp (by omega), cN0, show (44 : Int32).toNatClampNeg = 44 from by decide]
      generalize hx : va_cpy (f 16) (f 15) (i * 44) 0 44 = x at ld
      have hx' : ∀ k, k < 44 → x k = f 16 (i * 44 + k) := fun k hk => by rw [← hx]; exact cpy_from hk
      have sv : ∀ W : Nat → Int32, gsX_X1_saveTo_1 NF 0 W (upd2 f 15 x) = (W, upd2 (upd2 f 15 x) 17 (va_cpy x (f 17) 0 0 44)) := fun W => rfl
      obtain ⟨Z, z1, z2, z3⟩ := yBack (NF := NF) (V := v1) (F0 := f1) (W := w1) (G := g) hi
      have eX : gsX_X10_back_1 NF (nI i) v f = (x 42, upd (upd (upd v 21 0) 22 0) 23 0, upd2 (upd2 f 15 x) 17 (va_cpy x (f 17) 0 0 44)) := by
        simp only [gsX_X10_back_1, gsX_X5_takeBox_1, if_neg x0, if_neg y3, t20, B1, if_neg n0, ld, gsX_X5_forgetActs_1, sv, ite11, if_true, gsX_X1_today_1, cN42]
        rfl
      have eY : gsY_X11_back_1 NF (nI i) v1 f1 w1 g = (Z 23 37, upd (upd v1 35 0) 36 0, Z, w1, g) := by
        simp only [gsY_X11_back_1, gsY_X11_isBox_1, if_neg x0, if_neg y3, ite11, if_true, ci, q1, if_neg n0, z3, cN37]
      rw [eX] at e
      rw [eY] at e'
      cases e; cases e'
      have nx : NWR 999 a b x (Z 23) := nb.cg a3 b3 hx' (fun k hk => z2 k hk)
      refine ⟨nx.2.2.2.1.1, hh.row (fun k k1 k2 k3 => (pk_un k3).trans ((pk_un k2).trans (pk_un k1))) (fun q q1 q2 => (u2n q2).trans (u2n q1)) (fun k k1 k2 => (pk_un k2).trans (pk_un k1)) (fun q q1 _ => z1 q q1) (fun a' b' a1' b1' a3' b3' nw' ac' _ => ?_)⟩
      have ea : a' = a := (nI_eq (by omega) (by omega)).mp (a1'.symm.trans a1)
      have eb : b' = b := (nI_eq (by omega) (by omega)).mp (b1'.symm.trans b1)
      subst ea eb
      refine ⟨nx, 0, 0, 0, by omega, by omega, rfl, rfl, rfl, rfl, rfl, fun k hk => absurd hk (Nat.not_lt_zero _), fun k _ hk => absurd hk (Nat.not_lt_zero _), fun k hk => ?_⟩
      show va_cpy x (f 17) 0 0 44 ((0 + 0) % 41 * 44 + k) = x k
      rw [show (0 + 0) % 41 * 44 + k = k by omega]
      exact cpy_in hk
    · have c0 : T / 2 ^ i % 2 = 0 := by omega
      rw [c0] at B1 q1
      refine bad ?_ ?_
      · simp only [gsX_X10_back_1, gsX_X5_takeBox_1, if_neg x0, if_neg y3, t20, B1, if_pos (show nI 0 = (0 : Int32) from rfl), ite01]
      · simp only [gsY_X11_back_1, gsY_X11_isBox_1, if_neg x0, if_neg y3, ite11, if_true, ci, q1, if_pos (show nI 0 = (0 : Int32) from rfl)]
  · refine bad ?_ ?_
    · by_cases c : p < 0
      · simp only [gsX_X10_back_1, gsX_X5_takeBox_1, if_pos c, ite01]
      · obtain ⟨P, hP, rfl⟩ := nI_of c
        have x3 : (3 : Int32) ≤ nI P := lit_le (b := 3) rfl (Nat.le_of_not_lt (fun z => n ⟨P, z, rfl⟩)) hP
        simp only [gsX_X10_back_1, gsX_X5_takeBox_1, if_neg c, if_pos x3, ite01]
    · by_cases c : p < 0
      · simp only [gsY_X11_back_1, gsY_X11_isBox_1, if_pos c, ite01]
      · obtain ⟨P, hP, rfl⟩ := nI_of c
        have x3 : (3 : Int32) ≤ nI P := lit_le (b := 3) rfl (Nat.le_of_not_lt (fun z => n ⟨P, z, rfl⟩)) hP
        simp only [gsY_X11_back_1, gsY_X11_isBox_1, if_neg c, if_pos x3, ite01]
end
