section
variable {NF : Nat}
def NBx (n : Nat) (x : Int32) : Prop := ∃ j, j ≤ n ∧ x = nI j
theorem NBx.of {n : Nat} {M x : Int32} (hM : M = nI n) (hn : n < 2 ^ 31) (h : 0 ≤ x ∧ x ≤ M) : NBx n x := by
  have h0 := (fa_le _ _).mp h.1
  have z0 : (0 : Int32).toInt = 0 := by decide
  have hM' : M.toInt = n := by rw [hM, nI_toInt hn]
  exact nI_of2 hM' (fun z => by have z' := (fa_lt _ _).mp z; omega) h.2
def NWR (D a b : Nat) (x y : Nat → Int32) : Prop := (∀ m, m < a → x m = y m ∧ NBx 99 (x m) ∧ x (6 + m) = y (6 + m) ∧ (x (6 + m) = -1 ∨ ∃ c, c < b ∧ x (6 + m) = nI c)) ∧ (∀ c, c < b → (x (12 + c) = y (12 + c) ∧ NBx 99 (x (12 + c))) ∧ (x (18 + c) = y (18 + c) ∧ NBx 99 (x (18 + c))) ∧ (x (24 + c) = y (24 + c) ∧ NBx 99 (x (24 + c))) ∧ (x (30 + c) = y (30 + c) ∧ NBx 99 (x (30 + c)))) ∧ (∃ T, T < 64 ∧ y 36 = nI T ∧ ∀ c, c < b → x (36 + c) = nI (T / 2 ^ c % 2)) ∧ (x 42 = y 37 ∧ NBx D (x 42)) ∧ (x 43 = y 38 ∧ NBx 999 (x 43)) ∧ (∀ m m', m < a → m' < a → x (6 + m) = x (6 + m') → ¬ x (6 + m) = -1 → m = m')
theorem NWR.cg {D a b : Nat} {x y x' y' : Nat → Int32} (h : NWR D a b x y) (ha : a ≤ 6) (hb : b ≤ 6) (hx : ∀ k, k < 44 → x' k = x k) (hy : ∀ k, k < 39 → y' k = y k) : NWR D a b x' y' := by
  obtain ⟨h1, h2, ⟨T, t1, t2, t3⟩, h4, h5, h6⟩ := h
  refine ⟨fun m hm => ?_, fun c hc => ?_, ⟨T, t1, ?_, fun c hc => ?_⟩, ?_, ?_, fun m m' hm hm' => ?_⟩
  · rw [hx m (by omega), hx (6 + m) (by omega), hy m (by omega), hy (6 + m) (by omega)]; exact h1 m hm
  · rw [hx (12 + c) (by omega), hx (18 + c) (by omega), hx (24 + c) (by omega), hx (30 + c) (by omega), hy (12 + c) (by omega), hy (18 + c) (by omega), hy (24 + c) (by omega), hy (30 + c) (by omega)]; exact h2 c hc
  · rw [hy 36 (by decide)]; exact t2
  · rw [hx (36 + c) (by omega)]; exact t3 c hc
  · rw [hx 42 (by decide), hy 37 (by decide)]; exact h4
  · rw [hx 43 (by decide), hy 38 (by decide)]; exact h5
  · rw [hx (6 + m) (by omega), hx (6 + m') (by omega)]; exact h6 m m' hm hm'
theorem NWR.day {D D' a b : Nat} {x y : Nat → Int32} (h : NWR D a b x y) (hD : D ≤ D') : NWR D' a b x y := by
  obtain ⟨h1, h2, h3, ⟨h4, j, h7, h8⟩, h5, h6⟩ := h
  exact ⟨h1, h2, h3, ⟨h4, j, by omega, h8⟩, h5, h6⟩
section
variable {V : Nat → Int32} {F : Nat → Nat → Int32} {V1 : Nat → Int32} {F1 : Nat → Nat → Int32} {W : Int64} {G : Nat → Int64} {a b m c : Nat}
theorem xHasM1 (h : V 31 = nI a) (ha : a ≤ 6) (hm : m < a) : gsX_X7_hasMan_1 NF (nI m) V F = 1 := by
  simp only [gsX_X7_hasMan_1, h]
  rw [if_neg (show ¬ nI m < (0 : Int32) from nI_pos (by omega)), if_neg (show ¬ nI a ≤ nI m from nI_ge hm (by omega))]
theorem xHasC1 (h : V 32 = nI b) (hb : b ≤ 6) (hc : c < b) : gsX_X7_hasCoat_1 NF (nI c) V F = 1 := by
  simp only [gsX_X7_hasCoat_1, h]
  rw [if_neg (show ¬ nI c < (0 : Int32) from nI_pos (by omega)), if_neg (show ¬ nI b ≤ nI c from nI_ge hc (by omega))]
theorem xHasM0 {p : Int32} (h : V 31 = nI a) (hn : ¬ ∃ P, P < a ∧ p = nI P) : gsX_X7_hasMan_1 NF p V F = 0 := by
  simp only [gsX_X7_hasMan_1, h]
  by_cases c1 : p < 0
  · rw [if_pos c1]
  · obtain ⟨P, hP, rfl⟩ := nI_of c1
    rw [if_neg c1, if_pos (show nI a ≤ nI P from nI_le (Nat.le_of_not_lt (fun z => hn ⟨P, z, rfl⟩)) hP)]
theorem xHasC0 {p : Int32} (h : V 32 = nI b) (hn : ¬ ∃ P, P < b ∧ p = nI P) : gsX_X7_hasCoat_1 NF p V F = 0 := by
  simp only [gsX_X7_hasCoat_1, h]
  by_cases c1 : p < 0
  · rw [if_pos c1]
  · obtain ⟨P, hP, rfl⟩ := nI_of c1
    rw [if_neg c1, if_pos (show nI b ≤ nI P from nI_le (Nat.le_of_not_lt (fun z => hn ⟨P, z, rfl⟩)) hP)]
theorem xWears1 (h : V 31 = nI a) (ha : a ≤ 6) (hm : m < a) : gsX_X1_wears_1 NF (nI m) V F = F 15 (6 + m) := by
  simp only [gsX_X1_wears_1, xHasM1 (NF := NF) (F := F) h ha hm]
  rw [if_pos trivial, show (6 : Int32) + nI m = nI (6 + m) from nI_add 6 m, nI_clamp (by omega)]
theorem xWears0 {p : Int32} (h : V 31 = nI a) (hn : ¬ ∃ P, P < a ∧ p = nI P) : gsX_X1_wears_1 NF p V F = -1 := by
  simp only [gsX_X1_wears_1, xHasM0 (NF := NF) (F := F) h hn]
  rw [ite01]
theorem xWide1 (h : V 31 = nI a) (ha : a ≤ 6) (hm : m < a) : gsX_X1_manWide_1 NF (nI m) V F = F 15 m := by
  simp only [gsX_X1_manWide_1, xHasM1 (NF := NF) (F := F) h ha hm]
  rw [if_pos trivial, nI_clamp (by omega)]
theorem xPart1 {p : Nat} (h : V 32 = nI b) (hb : b ≤ 6) (hc : c < b) (hp : p < 5) : gsX_X1_part_1 NF (nI p) (nI c) V F = F 15 (12 + p * 6 + c) := by
  simp only [gsX_X1_part_1, xHasC1 (NF := NF) (F := F) h hb hc]
  rw [if_pos trivial, if_neg (show ¬ nI p < (0 : Int32) from nI_pos (by omega)), if_neg (show ¬ (5 : Int32) ≤ nI p from lit_nle (b := 5) rfl hp (by decide)), show nI p * 6 = nI (p * 6) from nI_mulI p 6, show (12 : Int32) + nI (p * 6) = nI (12 + p * 6) from nI_add 12 (p * 6), nI_add, nI_clamp (by omega)]
theorem xPart0 {p q : Int32} (h : V 32 = nI b) (hn : ¬ ∃ P, P < b ∧ q = nI P) : gsX_X1_part_1 NF p q V F = 0 := by
  simp only [gsX_X1_part_1, xHasC0 (NF := NF) (F := F) h hn]
  rw [ite01]
theorem xSetP1 {p : Nat} {z : Int32} (h : V 32 = nI b) (hb : b ≤ 6) (hc : c < b) (hp : p < 5) : gsX_X1_setPart_1 NF (nI p) (nI c) z V F = (V, upd2 F 15 (upd (F 15) (12 + p * 6 + c) z)) := by
  simp only [gsX_X1_setPart_1, xHasC1 (NF := NF) (F := F) h hb hc]
  rw [if_pos trivial, if_neg (show ¬ nI p < (0 : Int32) from nI_pos (by omega)), if_neg (show ¬ (5 : Int32) ≤ nI p from lit_nle (b := 5) rfl hp (by decide)), show nI p * 6 = nI (p * 6) from nI_mulI p 6, show (12 : Int32) + nI (p * 6) = nI (12 + p * 6) from nI_add 12 (p * 6), nI_add, nI_clamp (by omega)]
theorem xSetP0 {p q z : Int32} (h : V 32 = nI b) (hn : ¬ ∃ P, P < b ∧ q = nI P) : gsX_X1_setPart_1 NF p q z V F = (V, F) := by
  simp only [gsX_X1_setPart_1, xHasC0 (NF := NF) (F := F) h hn]
  rw [ite01]
theorem xSetW1 {z : Int32} (h : V 31 = nI a) (ha : a ≤ 6) (hm : m < a) : gsX_X1_setWears_1 NF (nI m) z V F = (V, upd2 F 15 (upd (F 15) (6 + m) z)) := by
  simp only [gsX_X1_setWears_1, xHasM1 (NF := NF) (F := F) h ha hm]
  rw [if_pos trivial, show (6 : Int32) + nI m = nI (6 + m) from nI_add 6 m, nI_clamp (by omega)]
theorem yIsM1 (h : V1 24 = nI a) (ha : a ≤ 6) (hm : m < a) : gsY_X11_isMan_1 NF (nI m) V1 F1 W G = 1 := by
  simp only [gsY_X11_isMan_1, h, yIsIn1 (NF := NF) (v1 := V1) (f1 := F1) (w1 := W) (g := G) hm (show a < 2 ^ 31 by omega)]
  first | exact ite11 | exact if_pos trivial
theorem yIsM0 {p : Int32} (h : V1 24 = nI a) (ha : a ≤ 6) (hn : ¬ ∃ P, P < a ∧ p = nI P) : gsY_X11_isMan_1 NF p V1 F1 W G = 0 := by
  simp only [gsY_X11_isMan_1, h, yIsIn0 (NF := NF) (v1 := V1) (f1 := F1) (w1 := W) (g := G) hn (show a < 2 ^ 31 by omega)]
  exact ite01
theorem yIsC1 (h : V1 25 = nI b) (hb : b ≤ 6) (hc : c < b) : gsY_X11_isCoat_1 NF (nI c) V1 F1 W G = 1 := by
  simp only [gsY_X11_isCoat_1, h, yIsIn1 (NF := NF) (v1 := V1) (f1 := F1) (w1 := W) (g := G) hc (show b < 2 ^ 31 by omega)]
  first | exact ite11 | exact if_pos trivial
theorem yIsC0 {p : Int32} (h : V1 25 = nI b) (hb : b ≤ 6) (hn : ¬ ∃ P, P < b ∧ p = nI P) : gsY_X11_isCoat_1 NF p V1 F1 W G = 0 := by
  simp only [gsY_X11_isCoat_1, h, yIsIn0 (NF := NF) (v1 := V1) (f1 := F1) (w1 := W) (g := G) hn (show b < 2 ^ 31 by omega)]
  exact ite01
end
def ACT (a b : Nat) (v : Nat → Int32) (f : Nat → Nat → Int32) (v1 : Nat → Int32) (f1 : Nat → Nat → Int32) : Prop := ∃ p d u, p < 41 ∧ d + u ≤ 40 ∧ v 21 = nI p ∧ v 22 = nI d ∧ v 23 = nI u ∧ v1 35 = nI d ∧ v1 36 = nI u ∧ (∀ i, i < d → NWR 999 a b (fun k => f 17 ((p + i) % 41 * 44 + k)) (fun k => f1 25 (39 * i + k))) ∧ (∀ i, d ≤ i → i < d + u → NWR 999 a b (fun k => f 17 ((p + i + 1) % 41 * 44 + k)) (fun k => f1 25 (39 * i + k))) ∧ (∀ k, k < 44 → f 17 ((p + d) % 41 * 44 + k) = f 15 k)
def BOX (a b : Nat) (v : Nat → Int32) (f : Nat → Nat → Int32) (f1 : Nat → Nat → Int32) : Prop := ∃ T, T < 8 ∧ v 20 = nI T ∧ ∀ i, i < 3 → f1 36 i = nI (T / 2 ^ i % 2) ∧ (T / 2 ^ i % 2 = 1 → NWR 999 a b (fun k => f 16 (i * 44 + k)) (fun k => f1 37 (39 * i + k)))
def FREL (v : Nat → Int32) (f : Nat → Nat → Int32) (v1 : Nat → Int32) (f1 : Nat → Nat → Int32) : Prop := R3 v f v1 f1 ∧ ∃ a b, v 31 = nI a ∧ v1 24 = nI a ∧ a ≤ 6 ∧ v 32 = nI b ∧ v1 25 = nI b ∧ b ≤ 6 ∧ STM f f1 a ∧ STC f f1 b ∧ NWR 999 a b (f 15) (f1 23) ∧ ACT a b v f v1 f1 ∧ BOX a b v f f1
theorem kx_ne {N : List Nat} {k j : Nat} (hk : N.contains k = true) (hj : N.contains j = false) : k ≠ j := fun z => by rw [z, hj] at hk; cases hk
theorem cpy_at {f g : Nat → Int32} {o n k : Nat} (hk : k < n) : va_cpy f g 0 o n (o + k) = f k := by
  unfold va_cpy
  rw [if_pos ⟨by omega, by omega⟩, Nat.zero_add, Nat.add_sub_cancel_left]
theorem cpy_off {f g : Nat → Int32} {s o n k : Nat} (hk : k < o ∨ o + n ≤ k) : va_cpy f g s o n k = g k := by
  unfold va_cpy
  rw [if_neg (by omega)]
theorem cpy_from {f g : Nat → Int32} {s n k : Nat} (hk : k < n) : va_cpy f g s 0 n k = f (s + k) := by
  unfold va_cpy
  rw [if_pos ⟨by omega, by omega⟩, Nat.sub_zero]
theorem xKeep {V : Nat → Int32} {F : Nat → Nat → Int32} {p d : Nat} (h21 : V 21 = nI p) (h22 : V 22 = nI d) (hp : p < 41) (hd : d ≤ 40) : ∃ (p' d' : Nat) (V' : Nat → Int32), ((d < 40 ∧ p' = p ∧ d' = d + 1) ∨ (d = 40 ∧ p' = (p + 1) % 41 ∧ d' = 40)) ∧ gsX_X5_keepAct_1 NF V F = (V', upd2 F 17 (va_cpy (F 15) (F 17) 0 ((p' + d') % 41 * 44) 44)) ∧ V' 21 = nI p' ∧ V' 22 = nI d' ∧ V' 23 = nI 0 ∧ ∀ k, k ≠ 21 → k ≠ 22 → k ≠ 23 → V' k = V k := by
  have sv : ∀ (r : Nat) (X : Nat → Int32), r < 41 → gsX_X1_saveTo_1 NF (nI r) X F = (X, upd2 F 17 (va_cpy (F 15) (F 17) 0 (r * 44) 44)) := fun r X hr => by
    simp only [gsX_X1_saveTo_1]
    rw [if_neg (show ¬ nI r < (0 : Int32) from nI_pos (by omega)), if_neg (show ¬ (41 : Int32) ≤ nI r from lit_nle (b := 41) rfl hr (by decide)), show nI r * 44 = nI (r * 44) from nI_mulI r 44, nI_clamp (by omega), cN0, show (44 : Int32).toNatClampNeg = 44 from by decide]
  have m41 : ∀ n : Nat, n < 2 ^ 31 → nI n - nI n / 41 * 41 = nI (n % 41) := fun n hn => nI_modI (b := 41) hn (by decide)
  by_cases c : d = 40
  · refine ⟨(p + 1) % 41, 40, upd (upd V 23 0) 21 (nI ((p + 1) % 41)), Or.inr ⟨c, rfl, rfl⟩, ?_, pk_us, (pk_un (by decide)).trans ((pk_un (by decide)).trans (by rw [h22, c])), (pk_un (by decide)).trans pk_us, fun k k1 k2 k3 => (pk_un k1).trans (pk_un k3)⟩
    simp only [gsX_X5_keepAct_1, h21, h22, nI_1]
    rw [if_pos (show (40 : Int32) ≤ nI d from lit_le (b := 40) rfl (by omega) (by omega)), m41 (p + 1) (by omega), nI_add, m41 _ (by omega), c, sv _ _ (Nat.mod_lt _ (by decide))]
  · refine ⟨p, d + 1, upd (upd V 23 0) 22 (nI (d + 1)), Or.inl ⟨by omega, rfl, rfl⟩, ?_, (pk_un (by decide)).trans ((pk_un (by decide)).trans h21), pk_us, (pk_un (by decide)).trans pk_us, fun k k1 k2 k3 => (pk_un k2).trans (pk_un k3)⟩
    simp only [gsX_X5_keepAct_1, h21, h22, nI_1]
    rw [if_neg (show ¬ (40 : Int32) ≤ nI d from lit_nle (b := 40) rfl (by omega) (by decide)), nI_add, m41 _ (by omega), sv _ _ (Nat.mod_lt _ (by decide))]
end
