section
variable {NF : Nat}
theorem lx_cnEq {P : Nat → Bool} {c : Nat → Nat} {n p : Nat} (hp : ¬ (p < n ∧ P (c p) = true)) : ∀ k, lx_cn P c n k p = p
  | 0 => rfl
  | k + 1 => by
    show (if p < n ∧ P (c p) = true then lx_cn P c n k (p + 1) else p) = p
    rw [if_neg hp]
theorem lx_cs {P : Nat → Bool} {c : Nat → Nat} {n p : Nat} (h : p < n) (hp : P (c p) = true) : lx_c P c n p = lx_c P c n (p + 1) := by
  unfold lx_c
  rw [show n - p = (n - (p + 1)) + 1 by omega]
  show (if p < n ∧ P (c p) = true then lx_cn P c n (n - (p + 1)) (p + 1) else p) = _
  rw [if_pos ⟨h, hp⟩]
theorem lx_c0 {P : Nat → Bool} {c : Nat → Nat} {n p : Nat} (h : ¬ (p < n ∧ P (c p) = true)) : lx_c P c n p = p := lx_cnEq h _
theorem lx_cprop (P : Nat → Bool) (c : Nat → Nat) (n : Nat) : ∀ (m p : Nat), n - p ≤ m → p ≤ lx_c P c n p ∧ (p ≤ n → lx_c P c n p ≤ n) ∧ (∀ k, p ≤ k → k < lx_c P c n p → k < n ∧ P (c k) = true) ∧ ¬ (lx_c P c n p < n ∧ P (c (lx_c P c n p)) = true) := by
  intro m
  induction m with
  | zero =>
    intro p hm
    have h : ¬ (p < n ∧ P (c p) = true) := fun q => by omega
    rw [lx_c0 h]
    exact ⟨Nat.le_refl _, fun q => q, fun k a b => absurd b (by omega), h⟩
  | succ m ih =>
    intro p hm
    by_cases h : p < n ∧ P (c p) = true
    · rw [lx_cs h.1 h.2]
      obtain ⟨h1, h2, h3, h4⟩ := ih (p + 1) (by omega)
      refine ⟨by omega, fun _ => h2 (by omega), fun k hk1 hk2 => ?_, h4⟩
      by_cases e : k = p
      · rw [e]; exact h
      · exact h3 k (by omega) hk2
    · rw [lx_c0 h]
      exact ⟨Nat.le_refl _, fun q => q, fun k a b => absurd b (by omega), h⟩
theorem lx_cge (P : Nat → Bool) (c : Nat → Nat) (n p : Nat) : p ≤ lx_c P c n p := (lx_cprop P c n _ p (Nat.le_refl _)).1
theorem lx_cle (P : Nat → Bool) (c : Nat → Nat) {n p : Nat} (h : p ≤ n) : lx_c P c n p ≤ n := (lx_cprop P c n _ p (Nat.le_refl _)).2.1 h
theorem lx_cin {P : Nat → Bool} {c : Nat → Nat} {n p k : Nat} (h1 : p ≤ k) (h2 : k < lx_c P c n p) : k < n ∧ P (c k) = true := (lx_cprop P c n _ p (Nat.le_refl _)).2.2.1 k h1 h2
theorem lx_cout (P : Nat → Bool) (c : Nat → Nat) (n p : Nat) : ¬ (lx_c P c n p < n ∧ P (c (lx_c P c n p)) = true) := (lx_cprop P c n _ p (Nat.le_refl _)).2.2.2
theorem cl_l : ∀ c, c < 256 → ((if sb_b c < 97 then (0 : Int32) else if 122 < sb_b c then 0 else 1) = if lx_l c = true then 1 else 0) := by decide +kernel
theorem cl_d : ∀ c, c < 256 → ((if sb_b c < 48 then (0 : Int32) else if 57 < sb_b c then 0 else 1) = if lx_d c = true then 1 else 0) := by decide +kernel
theorem cl_b : ∀ c, c < 256 → (sb_b c = 32 ↔ c = 32) ∧ (sb_b c = 10 ↔ c = 10) ∧ (lx_b c = true ↔ (c = 32 ∨ c = 10)) := by decide +kernel
theorem cl_s : ∀ c, c < 256 → lx_s c = true → sb_b c = nI c := by decide +kernel
theorem cl_dn : ∀ c, c < 256 → lx_d c = true → sb_b c = nI c := by decide +kernel
theorem yl_l : ∀ c, c < 256 → ((if nI c < 97 then (0 : Int32) else if 122 < nI c then 0 else 1) = if lx_l c = true then 1 else 0) := by decide +kernel
theorem yl_d : ∀ c, c < 256 → ((if nI c < 48 then (0 : Int32) else if 57 < nI c then 0 else 1) = if lx_d c = true then 1 else 0) := by decide +kernel
theorem yl_b : ∀ c, c < 256 → (nI c = 32 ↔ c = 32) ∧ (nI c = 10 ↔ c = 10) ∧ 0 ≤ nI c := by decide +kernel
theorem sb_int : ∀ c, c < 256 → (sb_b c).toInt = if c < 128 then (c : Int) else (c : Int) - 256 := by decide +kernel
theorem sb_inj : ∀ c, c < 256 → ∀ d, d < 128 → (sb_b c = nI d ↔ c = d) := by
  intro c hc d hd
  rw [fa_eq, sb_int c hc, nI_toInt (show d < 2 ^ 31 by omega)]
  by_cases h : c < 128
  · rw [if_pos h]; omega
  · rw [if_neg h]; omega
theorem sb_inj2 {a b : Nat} (ha : a < 256) (hb : b < 256) (h : sb_b a = sb_b b) : a = b := by
  have h1 := (sb_byte a ha).1
  have h2 := (sb_byte b hb).1
  rw [h, h2] at h1
  exact ((nI_eq (by omega) (by omega)).mp h1).symm
def TX (c : Nat → Nat) (n : Nat) (v : Nat → Int32) (f : Nat → Nat → Int32) : Prop := v 1 = nI n ∧ n ≤ 1600 ∧ ∀ k, k < n → c k < 256 ∧ f 0 k = sb_b (c k)
theorem TX.upd {c : Nat → Nat} {n : Nat} {v : Nat → Int32} {f : Nat → Nat → Int32} (T : TX c n v f) {k : Nat} {x : Int32} (h : k ≠ 1) : TX c n (upd v k x) f := ⟨(pk_un (Ne.symm h)).trans T.1, T.2⟩
theorem TX.of {c : Nat → Nat} {n : Nat} {v v' : Nat → Int32} {f f' : Nat → Nat → Int32} (T : TX c n v f) (h : v' 1 = v 1) (hf : f' 0 = f 0) : TX c n v' f' := ⟨h.trans T.1, T.2.1, by rw [hf]; exact T.2.2⟩
theorem xLet {c : Nat → Nat} {n : Nat} {v : Nat → Int32} {f : Nat → Nat → Int32} (T : TX c n v f) {p : Nat} (hp : p < 2 ^ 31) : gsX_X9_isLetter_1 NF (nI p) v f = if p < n ∧ lx_l (c p) = true then 1 else 0 := by
  obtain ⟨h1, hn, hc⟩ := T
  simp only [gsX_X9_isLetter_1, h1, nI_clamp hp]
  rw [if_neg (nI_pos hp)]
  by_cases h : p < n
  · rw [if_neg (nI_ge h (by omega)), (hc p h).2, cl_l (c p) (hc p h).1]
    by_cases q : lx_l (c p) = true
    · rw [if_pos q, if_pos ⟨h, q⟩]
    · rw [if_neg q, if_neg (fun z => q z.2)]
  · rw [if_pos (nI_le (by omega) hp), if_neg (fun q => h q.1)]
theorem xDig {c : Nat → Nat} {n : Nat} {v : Nat → Int32} {f : Nat → Nat → Int32} (T : TX c n v f) {p : Nat} (hp : p < 2 ^ 31) : gsX_X9_isDigit_1 NF (nI p) v f = if p < n ∧ lx_d (c p) = true then 1 else 0 := by
  obtain ⟨h1, hn, hc⟩ := T
  simp only [gsX_X9_isDigit_1, h1, nI_clamp hp]
  rw [if_neg (nI_pos hp)]
  by_cases h : p < n
  · rw [if_neg (nI_ge h (by omega)), (hc p h).2, cl_d (c p) (hc p h).1]
    by_cases q : lx_d (c p) = true
    · rw [if_pos q, if_pos ⟨h, q⟩]
    · rw [if_neg q, if_neg (fun z => q z.2)]
  · rw [if_pos (nI_le (by omega) hp), if_neg (fun q => h q.1)]
def zV : Nat → Int32 := fun _ => 0
def zVV : Nat → Nat → Int32 := fun _ _ => 0
def WS : List Nat := [109, 97, 110, 32, 99, 111, 97, 116, 32, 105, 108, 108, 32, 101, 97, 115, 121, 32, 98, 111, 108, 116, 32, 108, 105, 107, 101, 32, 114, 97, 105, 110, 32, 100, 114, 97, 119, 32, 116, 97, 108, 108, 32, 119, 105, 100, 101, 32, 103, 114, 111, 119, 115, 32, 115, 101, 97, 109, 32, 111, 114, 32, 97, 110, 100, 32, 110, 111, 116, 32, 116, 105, 103, 104, 116, 32, 108, 111, 111, 115, 101, 32, 115, 104, 111, 114, 116, 32, 108, 111, 110, 103, 32, 119, 111, 114, 110, 32, 100, 97, 121, 32]
theorem gch0 : ∀ i, i < 102 → gsX_J0_charAt_5068e_1 0 (nI i) zV zVV = nI (WS.getD i 0) := by decide +kernel
theorem gch {v : Nat → Int32} {f : Nat → Nat → Int32} {i : Nat} (h : i < 102) : gsX_J0_charAt_5068e_1 NF (nI i) v f = nI (WS.getD i 0) := (show gsX_J0_charAt_5068e_1 NF (nI i) v f = gsX_J0_charAt_5068e_1 0 (nI i) zV zVV from rfl).trans (gch0 i h)
def layB : List (List Nat) → Nat → Bool
  | [], s => s == 102
  | w :: ws, s => decide (s + w.length < 102) && (List.range w.length).all (fun i => WS.getD (s + i) 0 == w.getD i 0 && w.getD i 0 != 32 && decide (w.getD i 0 < 128)) && WS.getD (s + w.length) 0 == 32 && layB ws (s + w.length + 1)
theorem layWL : layB lx_W 0 = true := by decide +kernel
def wM (c : Nat → Nat) (p e : Nat) (w : List Nat) (j : Nat) : Prop := ∀ i, i < j → p + i < e ∧ c (p + i) = w.getD i 0
theorem wM_s {c : Nat → Nat} {p e : Nat} {w : List Nat} {j : Nat} : wM c p e w (j + 1) ↔ wM c p e w j ∧ p + j < e ∧ c (p + j) = w.getD j 0 := by
  constructor
  · intro h
    exact ⟨fun i hi => h i (by omega), h j (by omega)⟩
  · intro h i hi
    by_cases e1 : i = j
    · rw [e1]; exact h.2
    · exact h.1 i (by omega)
theorem wkIn {c : Nat → Nat} {n : Nat} {v : Nat → Int32} {f : Nat → Nat → Int32} (T : TX c n v f) {p e : Nat} (h3 : v 3 = nI p) (h4 : v 4 = nI e) (hpe : p ≤ e) (hen : e ≤ n) {w : List Nat} {s k : Nat} (hs : s + w.length < 102) (hk : k < 200)
    (hw : ∀ i, i < w.length → WS.getD (s + i) 0 = w.getD i 0 ∧ w.getD i 0 ≠ 32 ∧ w.getD i 0 < 128) (h32 : WS.getD (s + w.length) 0 = 32) :
    ∀ (r j : Nat) (b : Int32) (fu : Nat), j + r = w.length → ((b = 1 ∧ wM c p e w j) ∨ (b = 0 ∧ ¬ wM c p e w j)) → r < fu →
      ((wM c p e w w.length ∧ p + w.length = e) → gsX_X9_wordKind_1_L1 NF v f fu (nI k) (nI s) b (nI (s + j)) = nI k) ∧
      (¬ (wM c p e w w.length ∧ p + w.length = e) → gsX_X9_wordKind_1_L1 NF v f fu (nI k) (nI s) b (nI (s + j)) = gsX_X9_wordKind_1_L1 NF v f (fu - r - 1) (nI (k + 1)) (nI (s + w.length + 1)) 1 (nI (s + w.length + 1))) := by
  have hn := T.2.1
  intro r
  induction r with
  | zero =>
    intro j b fu hj hb hf
    have ej : j = w.length := by omega
    subst ej
    obtain ⟨fu, rfl⟩ : ∃ q, fu = q + 1 := ⟨fu - 1, by omega⟩
    have hc : gsX_J0_charAt_5068e_1 NF (nI (s + w.length)) v f = 32 := by rw [gch hs, h32]; rfl
    have hat : nI p + nI (s + w.length) - nI s = nI (p + w.length) := by rw [nI_add, pk_sub (by omega)]; congr 1; omega
    have hx : ¬ (102 : Int32) ≤ nI (s + w.length) := nI_ge (b := 102) hs (by omega)
    rw [show fu + 1 - 0 - 1 = fu by omega]
    simp only [gsX_X9_wordKind_1_L1, hc, h3, h4, hat, if_neg hx, nI_1]
    rw [if_pos trivial]
    rcases hb with ⟨rfl, hM⟩ | ⟨rfl, hM⟩
    · rw [if_neg (show ¬ (1 : Int32) = 0 by decide)]
      by_cases e1 : p + w.length = e
      · rw [if_pos (by rw [e1])]
        exact ⟨fun _ => rfl, fun z => absurd ⟨hM, e1⟩ z⟩
      · rw [if_neg (fun z => e1 ((nI_eq (by omega) (by omega)).mp z))]
        exact ⟨fun z => absurd z.2 e1, fun _ => rfl⟩
    · rw [if_pos rfl]
      exact ⟨fun z => absurd z.1 hM, fun _ => rfl⟩
  | succ r ih =>
    intro j b fu hj hb hf
    obtain ⟨fu, rfl⟩ : ∃ q, fu = q + 1 := ⟨fu - 1, by omega⟩
    have hjw : j < w.length := by omega
    obtain ⟨q1, q2, q3⟩ := hw j hjw
    have hc : gsX_J0_charAt_5068e_1 NF (nI (s + j)) v f = nI (w.getD j 0) := by rw [gch (by omega), q1]
    have hat : nI p + nI (s + j) - nI s = nI (p + j) := by rw [nI_add, pk_sub (by omega)]; congr 1; omega
    have hx : ¬ (102 : Int32) ≤ nI (s + j) := nI_ge (b := 102) (by omega) (by omega)
    have h32' : ¬ nI (w.getD j 0) = 32 := fun z => q2 ((nI_eq (b := 32) (by omega) (by omega)).mp z)
    have hfu : fu + 1 - (r + 1) - 1 = fu - r - 1 := by omega
    have go : ∀ b' : Int32, ((b' = 1 ∧ wM c p e w (j + 1)) ∨ (b' = 0 ∧ ¬ wM c p e w (j + 1))) → ((wM c p e w w.length ∧ p + w.length = e) → gsX_X9_wordKind_1_L1 NF v f fu (nI k) (nI s) b' (nI (s + j + 1)) = nI k) ∧
      (¬ (wM c p e w w.length ∧ p + w.length = e) → gsX_X9_wordKind_1_L1 NF v f fu (nI k) (nI s) b' (nI (s + j + 1)) = gsX_X9_wordKind_1_L1 NF v f (fu - r - 1) (nI (k + 1)) (nI (s + w.length + 1)) 1 (nI (s + w.length + 1))) := fun b' hb' => ih (j + 1) b' fu (by omega) hb' (by omega)
    rw [hfu]
    simp only [gsX_X9_wordKind_1_L1, hc, h3, h4, hat, if_neg hx, if_neg h32', nI_1]
    rcases hb with ⟨rfl, hM⟩ | ⟨rfl, hM⟩
    · rw [if_neg (show ¬ (1 : Int32) = 0 by decide)]
      by_cases e1 : e ≤ p + j
      · rw [if_pos (nI_le e1 (by omega))]
        exact go 0 (Or.inr ⟨rfl, fun z => by have := (wM_s.mp z).2.1; omega⟩)
      · rw [if_neg (nI_ge (by omega) (by omega)), nI_clamp (by omega), (T.2.2 (p + j) (by omega)).2]
        by_cases e2 : c (p + j) = w.getD j 0
        · rw [if_pos ((sb_inj _ (T.2.2 (p + j) (by omega)).1 _ q3).mpr e2)]
          exact go 1 (Or.inl ⟨rfl, wM_s.mpr ⟨hM, by omega, e2⟩⟩)
        · rw [if_neg (fun z => e2 ((sb_inj _ (T.2.2 (p + j) (by omega)).1 _ q3).mp z))]
          exact go 0 (Or.inr ⟨rfl, fun z => e2 (wM_s.mp z).2.2⟩)
    · rw [if_pos rfl]
      exact go 0 (Or.inr ⟨rfl, fun z => hM (wM_s.mp z).1⟩)
theorem wkOut {c : Nat → Nat} {n : Nat} {v : Nat → Int32} {f : Nat → Nat → Int32} (T : TX c n v f) {p e : Nat} (h3 : v 3 = nI p) (h4 : v 4 = nI e) (hpe : p ≤ e) (hen : e ≤ n) :
    ∀ (ws : List (List Nat)) (s k fu : Nat), layB ws s = true → k + ws.length < 200 → 103 - s < fu → gsX_X9_wordKind_1_L1 NF v f fu (nI k) (nI s) 1 (nI s) = nI (lx_k c p (e - p) ws k) := by
  intro ws
  induction ws with
  | nil =>
    intro s k fu hl hk hf
    obtain ⟨fu, rfl⟩ : ∃ q, fu = q + 1 := ⟨fu - 1, by omega⟩
    have e1 : s = 102 := by simpa [layB] using hl
    subst e1
    simp only [gsX_X9_wordKind_1_L1]
    rw [if_pos (show (102 : Int32) ≤ nI 102 from nI_le (a := 102) (Nat.le_refl _) (by decide))]
    rfl
  | cons w ws ih =>
    intro s k fu hl hk hf
    simp only [layB, Bool.and_eq_true, decide_eq_true_eq, List.all_eq_true, List.mem_range, beq_iff_eq, bne_iff_ne] at hl
    obtain ⟨⟨⟨l1, l2⟩, l3⟩, l4⟩ := hl
    have hw : ∀ i, i < w.length → WS.getD (s + i) 0 = w.getD i 0 ∧ w.getD i 0 ≠ 32 ∧ w.getD i 0 < 128 := fun i hi => ⟨(l2 i hi).1.1, (l2 i hi).1.2, (l2 i hi).2⟩
    rw [List.length_cons] at hk
    obtain ⟨a1, a2⟩ := wkIn (NF := NF) (k := k) T h3 h4 hpe hen l1 (by omega) hw l3 w.length 0 1 fu (by omega) (Or.inl ⟨rfl, fun i hi => absurd hi (by omega)⟩) (by omega)
    have hiff : (wM c p e w w.length ∧ p + w.length = e) ↔ (e - p = w.length ∧ ∀ i, i < w.length → c (p + i) = w.getD i 0) := by
      constructor
      · intro h
        exact ⟨by omega, fun i hi => (h.1 i hi).2⟩
      · intro h
        exact ⟨fun i hi => ⟨by omega, h.2 i hi⟩, by omega⟩
    by_cases hm : e - p = w.length ∧ ∀ i, i < w.length → c (p + i) = w.getD i 0
    · rw [show nI (lx_k c p (e - p) (w :: ws) k) = nI k by unfold lx_k; rw [if_pos hm]]
      exact a1 (hiff.mpr hm)
    · rw [show lx_k c p (e - p) (w :: ws) k = lx_k c p (e - p) ws (k + 1) by rw [lx_k]; rw [if_neg hm]]
      exact (a2 (fun z => hm (hiff.mp z))).trans (ih (s + w.length + 1) (k + 1) (fu - w.length - 1) l4 (by omega) (by omega))
theorem xWK {c : Nat → Nat} {n : Nat} {v : Nat → Int32} {f : Nat → Nat → Int32} (T : TX c n v f) {p e : Nat} (h3 : v 3 = nI p) (h4 : v 4 = nI e) (hpe : p ≤ e) (hen : e ≤ n) : gsX_X9_wordKind_1 NF v f = nI (lx_k c p (e - p) lx_W 101) := by
  unfold gsX_X9_wordKind_1
  exact wkOut T h3 h4 hpe hen lx_W 0 101 (4294967296 + NF) layWL (by decide) (by omega)
theorem lx_k_rng (c : Nat → Nat) (p len : Nat) : ∀ (ws : List (List Nat)) (k : Nat), lx_k c p len ws k = 3 ∨ (k ≤ lx_k c p len ws k ∧ lx_k c p len ws k < k + ws.length) := by
  intro ws
  induction ws with
  | nil => intro k; exact Or.inl rfl
  | cons w ws ih =>
    intro k
    rw [lx_k, List.length_cons]
    by_cases h : len = w.length ∧ ∀ i, i < w.length → c (p + i) = w.getD i 0
    · rw [if_pos h]; exact Or.inr ⟨Nat.le_refl _, by omega⟩
    · rw [if_neg h]
      rcases ih (k + 1) with q | q
      · exact Or.inl q
      · exact Or.inr ⟨by omega, by omega⟩
theorem lx_k_W (c : Nat → Nat) (p len : Nat) : lx_k c p len lx_W 101 = 3 ∨ (101 ≤ lx_k c p len lx_W 101 ∧ lx_k c p len lx_W 101 ≤ 121) := by
  rcases lx_k_rng c p len lx_W 101 with h | h
  · exact Or.inl h
  · have : lx_W.length = 21 := rfl
    exact Or.inr ⟨h.1, by omega⟩
end
