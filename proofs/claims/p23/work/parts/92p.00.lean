section
section
variable {NF : Nat}
theorem lx_cnEq {P : Nat → Bool} {c : Nat → Nat} {n p : Nat} (hp : ¬ (p < n ∧ P (c p) = true)) : ∀ k, lx_cn P c n k p = p
  | 0 => rfl
  | k + 1 => by
    show (if p < n ∧ P (c p) = true then lx_cn P c n k (p + 1) else p) = p
    rw [if_neg hp]
theorem lx_cs {P : Nat → Bool} {c : Nat → Nat} {n p : Nat} (h : p < n) (hp : P (c p) = true) : lx_c P c n p = lx_c P c n (p + 1) := by
  unfold lx_c
  rw [show n - p = (n - (p + 1)) + 1 by omega]
  show (if p < n ∧ P (c p) = true then lx_cn P c n (n - (p + 1)) (p + 1) else p) = _
  rw [if_pos ⟨h, hp⟩]
theorem lx_c0 {P : Nat → Bool} {c : Nat → Nat} {n p : Nat} (h : ¬ (p < n ∧ P (c p) = true)) : lx_c P c n p = p := lx_cnEq h _
theorem lx_cprop (P : Nat → Bool) (c : Nat → Nat) (n : Nat) : ∀ (m p : Nat), n - p ≤ m → p ≤ lx_c P c n p ∧ (p ≤ n → lx_c P c n p ≤ n) ∧ (∀ k, p ≤ k → k < lx_c P c n p → k < n ∧ P (c k) = true) ∧ ¬ (lx_c P c n p < n ∧ P (c (lx_c P c n p)) = true) := by
  intro m
  induction m with
  | zero =>
    intro p hm
    have h : ¬ (p < n ∧ P (c p) = true) := fun q => by omega
    rw [lx_c0 h]
    exact ⟨Nat.le_refl _, fun q => q, fun k a b => absurd b (by omega), h⟩
  | succ m ih =>
    intro p hm
    by_cases h : p < n ∧ P (c p) = true
    · rw [lx_cs h.1 h.2]
      obtain ⟨h1, h2, h3, h4⟩ := ih (p + 1) (by omega)
      refine ⟨by omega, fun _ => h2 (by omega), fun k hk1 hk2 => ?_, h4⟩
      by_cases e : k = p
      · rw [e]; exact h
      · exact h3 k (by omega) hk2
    · rw [lx_c0 h]
      exact ⟨Nat.le_refl _, fun q => q, fun k a b => absurd b (by omega), h⟩
theorem lx_cge (P : Nat → Bool) (c : Nat → Nat) (n p : Nat) : p ≤ lx_c P c n p := (lx_cprop P c n _ p (Nat.le_refl _)).1
theorem lx_cle (P : Nat → Bool) (c : Nat → Nat) {n p : Nat} (h : p ≤ n) : lx_c P c n p ≤ n := (lx_cprop P c n _ p (Nat.le_refl _)).2.1 h
theorem lx_cin {P : Nat → Bool} {c : Nat → Nat} {n p k : Nat} (h1 : p ≤ k) (h2 : k < lx_c P c n p) : k < n ∧ P (c k) = true := (lx_cprop P c n _ p (Nat.le_refl _)).2.2.1 k h1 h2
theorem lx_cout (P : Nat → Bool) (c : Nat → Nat) (n p : Nat) : ¬ (lx_c P c n p < n ∧ P (c (lx_c P c n p)) = true) := (lx_cprop P c n _ p (Nat.le_refl _)).2.2.2
theorem cl_l : ∀ c, c < 256 → ((if sb_b c < 97 then (0 : Int32) else if 122 < sb_b c then 0 else 1) = if lx_l c = true then 1 else 0) := by decide +kernel
theorem cl_d : ∀ c, c < 256 → ((if sb_b c < 48 then (0 : Int32) else if 57 < sb_b c then 0 else 1) = if lx_d c = true then 1 else 0) := by decide +kernel
theorem cl_b : ∀ c, c < 256 → (sb_b c = 32 ↔ c = 32) ∧ (sb_b c = 10 ↔ c = 10) ∧ (lx_b c = true ↔ (c = 32 ∨ c = 10)) := by decide +kernel
theorem cl_s : ∀ c, c < 256 → lx_s c = true → sb_b c = nI c := by decide +kernel
theorem cl_dn : ∀ c, c < 256 → lx_d c = true → sb_b c = nI c := by decide +kernel
theorem yl_l : ∀ c, c < 256 → ((if nI c < 97 then (0 : Int32) else if 122 < nI c then 0 else 1) = if lx_l c = true then 1 else 0) := by decide +kernel
theorem yl_d : ∀ c, c < 256 → ((if nI c < 48 then (0 : Int32) else if 57 < nI c then 0 else 1) = if lx_d c = true then 1 else 0) := by decide +kernel
theorem yl_b : ∀ c, c < 256 → (nI c = 32 ↔ c = 32) ∧ (nI c = 10 ↔ c = 10) ∧ 0 ≤ nI c := by decide +kernel
theorem sb_int : ∀ c, c < 256 → (sb_b c).toInt = if c < 128 then (c : Int) else (c : Int) - 256 := by decide +kernel
theorem sb_inj : ∀ c, c < 256 → ∀ d, d < 128 → (sb_b c = nI d ↔ c = d) := by
  intro c hc d hd
  rw [fa_eq, sb_int c hc, nI_toInt (show d < 2 ^ 31 by omega)]
  by_cases h : c < 128
  · rw [if_pos h]; omega
  · rw [if_neg h]; omega
theorem sb_inj2 {a b : Nat} (ha : a < 256) (hb : b < 256) (h : sb_b a = sb_b b) : a = b := by
  have h1 := (sb_byte a ha).1
  have h2 := (sb_byte b hb).1
  rw [h, h2] at h1
  exact ((nI_eq (by omega) (by omega)).mp h1).symm
def TX (c : Nat → Nat) (n : Nat) (v : Nat → Int32) (f : Nat → Nat → Int32) : Prop := v 1 = nI n ∧ n ≤ 1600 ∧ ∀ k, k < n → c k < 256 ∧ f 0 k = sb_b (c k)
theorem TX.upd {c : Nat → Nat} {n : Nat} {v : Nat → Int32} {f : Nat → Nat → Int32} (T : TX c n v f) {k : Nat} {x : Int32} (h : k ≠ 1) : TX c n (upd v k x) f := ⟨(pk_un (Ne.symm h)).trans T.1, T.2⟩
theorem TX.of {c : Nat → Nat} {n : Nat} {v v' : Nat → Int32} {f f' : Nat → Nat → Int32} (T : TX c n v f) (h : v' 1 = v 1) (hf : f' 0 = f 0) : TX c n v' f' := ⟨h.trans T.1, T.2.1, by rw [hf]; exact T.2.2⟩
theorem xLet {c : Nat → Nat} {n : Nat} {v : Nat → Int32} {f : Nat → Nat → Int32} (T : TX c n v f) {p : Nat} (hp : p < 2 ^ 31) : gsX_X9_isLetter_1 NF (nI p) v f = if p < n ∧ lx_l (c p) = true then 1 else 0 := by
  obtain ⟨h1, hn, hc⟩ := T
  simp only [gsX_X9_isLetter_1, h1, nI_clamp hp]
  rw [if_neg (nI_pos hp)]
  by_cases h : p < n
  · rw [if_neg (nI_ge h (by omega)), (hc p h).2, cl_l (c p) (hc p h).1]
    by_cases q : lx_l (c p) = true
    · rw [if_pos q, if_pos ⟨h, q⟩]
    · rw [if_neg q, if_neg (fun z => q z.2)]
  · rw [if_pos (nI_le (by omega) hp), if_neg (fun q => h q.1)]
theorem xDig {c : Nat → Nat} {n : Nat} {v : Nat → Int32} {f : Nat → Nat → Int32} (T : TX c n v f) {p : Nat} (hp : p < 2 ^ 31) : gsX_X9_isDigit_1 NF (nI p) v f = if p < n ∧ lx_d (c p) = true then 1 else 0 := by
  obtain ⟨h1, hn, hc⟩ := T
  simp only [gsX_X9_isDigit_1, h1, nI_clamp hp]
  rw [if_neg (nI_pos hp)]
  by_cases h : p < n
  · rw [if_neg (nI_ge h (by omega)), (hc p h).2, cl_d (c p) (hc p h).1]
    by_cases q : lx_d (c p) = true
    · rw [if_pos q, if_pos ⟨h, q⟩]
    · rw [if_neg q, if_neg (fun z => q z.2)]
  · rw [if_pos (nI_le (by omega) hp), if_neg (fun q => h q.1)]
def zV : Nat → Int32 := fun _ => 0
def zVV : Nat → Nat → Int32 := fun _ _ => 0
def WS : List Nat := [109, 97, 110, 32, 99, 111, 97, 116, 32, 105, 108, 108, 32, 101, 97, 115, 121, 32, 98, 111, 108, 116, 32, 108, 105, 107, 101, 32, 114, 97, 105, 110, 32, 100, 114, 97, 119, 32, 116, 97, 108, 108, 32, 119, 105, 100, 101, 32, 103, 114, 111, 119, 115, 32, 115, 101, 97, 109, 32, 111, 114, 32, 97, 110, 100, 32, 110, 111, 116, 32, 116, 105, 103, 104, 116, 32, 108, 111, 111, 115, 101, 32, 115, 104, 111, 114, 116, 32, 108, 111, 110, 103, 32, 119, 111, 114, 110, 32, 100, 97, 121, 32]
theorem gch0 : ∀ i, i < 102 → gsX_J0_charAt_5068e_1 0 (nI i) zV zVV = nI (WS.getD i 0) := by decide +kernel
theorem gch {v : Nat → Int32} {f : Nat → Nat → Int32} {i : Nat} (h : i < 102) : gsX_J0_charAt_5068e_1 NF (nI i) v f = nI (WS.getD i 0) := (show gsX_J0_charAt_5068e_1 NF (nI i) v f = gsX_J0_charAt_5068e_1 0 (nI i) zV zVV from rfl).trans (gch0 i h)
def layB : List (List Nat) → Nat → Bool
  | [], s => s == 102
  | w :: ws, s => decide (s + w.length < 102) && (List.range w.length).all (fun i => WS.getD (s + i) 0 == w.getD i 0 && w.getD i 0 != 32 && decide (w.getD i 0 < 128)) && WS.getD (s + w.length) 0 == 32 && layB ws (s + w.length + 1)
theorem layWL : layB lx_W 0 = true := by decide +kernel
def wM (c : Nat → Nat) (p e : Nat) (w : List Nat) (j : Nat) : Prop := ∀ i, i < j → p + i < e ∧ c (p + i) = w.getD i 0
theorem wM_s {c : Nat → Nat} {p e : Nat} {w : List Nat} {j : Nat} : wM c p e w (j + 1) ↔ wM c p e w j ∧ p + j < e ∧ c (p + j) = w.getD j 0 := by
  constructor
  · intro h
    exact ⟨fun i hi => h i (by omega), h j (by omega)⟩
  · intro h i hi
    by_cases e1 : i = j
    · rw [e1]; exact h.2
    · exact h.1 i (by omega)
theorem wkIn {c : Nat → Nat} {n : Nat} {v : Nat → Int32} {f : Nat → Nat → Int32} (T : TX c n v f) {p e : Nat} (h3 : v 3 = nI p) (h4 : v 4 = nI e) (hpe : p ≤ e) (hen : e ≤ n) {w : List Nat} {s k : Nat} (hs : s + w.length < 102) (hk : k < 200)
    (hw : ∀ i, i < w.length → WS.getD (s + i) 0 = w.getD i 0 ∧ w.getD i 0 ≠ 32 ∧ w.getD i 0 < 128) (h32 : WS.getD (s + w.length) 0 = 32) :
    ∀ (r j : Nat) (b : Int32) (fu : Nat), j + r = w.length → ((b = 1 ∧ wM c p e w j) ∨ (b = 0 ∧ ¬ wM c p e w j)) → r < fu →
      ((wM c p e w w.length ∧ p + w.length = e) → gsX_X9_wordKind_1_L1 NF v f fu (nI k) (nI s) b (nI (s + j)) = nI k) ∧
      (¬ (wM c p e w w.length ∧ p + w.length = e) → gsX_X9_wordKind_1_L1 NF v f fu (nI k) (nI s) b (nI (s + j)) = gsX_X9_wordKind_1_L1 NF v f (fu - r - 1) (nI (k + 1)) (nI (s + w.length + 1)) 1 (nI (s + w.length + 1))) := by
  have hn := T.2.1
  intro r
  induction r with
  | zero =>
    intro j b fu hj hb hf
    have ej : j = w.length := by omega
    subst ej
    obtain ⟨fu, rfl⟩ : ∃ q, fu = q + 1 := ⟨fu - 1, by omega⟩
    have hc : gsX_J0_charAt_5068e_1 NF (nI (s + w.length)) v f = 32 := by rw [gch hs, h32]; rfl
    have hat : nI p + nI (s + w.length) - nI s = nI (p + w.length) := by rw [nI_add, pk_sub (by omega)]; congr 1; omega
    have hx : ¬ (102 : Int32) ≤ nI (s + w.length) := nI_ge (b := 102) hs (by omega)
    rw [show fu + 1 - 0 - 1 = fu by omega]
    simp only [gsX_X9_wordKind_1_L1, hc, h3, h4, hat, if_neg hx, nI_1]
    rw [if_pos trivial]
    rcases hb with ⟨rfl, hM⟩ | ⟨rfl, hM⟩
    · rw [if_neg (show ¬ (1 : Int32) = 0 by decide)]
      by_cases e1 : p + w.length = e
      · rw [if_pos (by rw [e1])]
        exact ⟨fun _ => rfl, fun z => absurd ⟨hM, e1⟩ z⟩
      · rw [if_neg (fun z => e1 ((nI_eq (by omega) (by omega)).mp z))]
        exact ⟨fun z => absurd z.2 e1, fun _ => rfl⟩
    · rw [if_pos rfl]
      exact ⟨fun z => absurd z.1 hM, fun _ => rfl⟩
  | succ r ih =>
    intro j b fu hj hb hf
    obtain ⟨fu, rfl⟩ : ∃ q, fu = q + 1 := ⟨fu - 1, by omega⟩
    have hjw : j < w.length := by omega
    obtain ⟨q1, q2, q3⟩ := hw j hjw
    have hc : gsX_J0_charAt_5068e_1 NF (nI (s + j)) v f = nI (w.getD j 0) := by rw [gch (by omega), q1]
    have hat : nI p + nI (s + j) - nI s = nI (p + j) := by rw [nI_add, pk_sub (by omega)]; congr 1; omega
    have hx : ¬ (102 : Int32) ≤ nI (s + j) := nI_ge (b := 102) (by omega) (by omega)
    have h32' : ¬ nI (w.getD j 0) = 32 := fun z => q2 ((nI_eq (b := 32) (by omega) (by omega)).mp z)
    have hfu : fu + 1 - (r + 1) - 1 = fu - r - 1 := by omega
    have go : ∀ b' : Int32, ((b' = 1 ∧ wM c p e w (j + 1)) ∨ (b' = 0 ∧ ¬ wM c p e w (j + 1))) → ((wM c p e w w.length ∧ p + w.length = e) → gsX_X9_wordKind_1_L1 NF v f fu (nI k) (nI s) b' (nI (s + j + 1)) = nI k) ∧
      (¬ (wM c p e w w.length ∧ p + w.length = e) → gsX_X9_wordKind_1_L1 NF v f fu (nI k) (nI s) b' (nI (s + j + 1)) = gsX_X9_wordKind_1_L1 NF v f (fu - r - 1) (nI (k + 1)) (nI (s + w.length + 1)) 1 (nI (s + w.length + 1))) := fun b' hb' => ih (j + 1) b' fu (by omega) hb' (by omega)
    rw [hfu]
    simp only [gsX_X9_wordKind_1_L1, hc, h3, h4, hat, if_neg hx, if_neg h32', nI_1]
    rcases hb with ⟨rfl, hM⟩ | ⟨rfl, hM⟩
    · rw [if_neg (show ¬ (1 : Int32) = 0 by decide)]
      by_cases e1 : e ≤ p + j
      · rw [if_pos (nI_le e1 (by omega))]
        exact go 0 (Or.inr ⟨rfl, fun z => by have := (wM_s.mp z).2.1; omega⟩)
      · rw [if_neg (nI_ge (by omega) (by omega)), nI_clamp (by omega), (T.2.2 (p + j) (by omega)).2]
        by_cases e2 : c (p + j) = w.getD j 0
        · rw [if_pos ((sb_inj _ (T.2.2 (p + j) (by omega)).1 _ q3).mpr e2)]
          exact go 1 (Or.inl ⟨rfl, wM_s.mpr ⟨hM, by omega, e2⟩⟩)
        · rw [if_neg (fun z => e2 ((sb_inj _ (T.2.2 (p + j) (by omega)).1 _ q3).mp z))]
          exact go 0 (Or.inr ⟨rfl, fun z => e2 (wM_s.mp z).2.2⟩)
    · rw [if_pos rfl]
      exact go 0 (Or.inr ⟨rfl, fun z => hM (wM_s.mp z).1⟩)
theorem wkOut {c : Nat → Nat} {n : Nat} {v : Nat → Int32} {f : Nat → Nat → Int32} (T : TX c n v f) {p e : Nat} (h3 : v 3 = nI p) (h4 : v 4 = nI e) (hpe : p ≤ e) (hen : e ≤ n) :
    ∀ (ws : List (List Nat)) (s k fu : Nat), layB ws s = true → k + ws.length < 200 → 103 - s < fu → gsX_X9_wordKind_1_L1 NF v f fu (nI k) (nI s) 1 (nI s) = nI (lx_k c p (e - p) ws k) := by
  intro ws
  induction ws with
  | nil =>
    intro s k fu hl hk hf
    obtain ⟨fu, rfl⟩ : ∃ q, fu = q + 1 := ⟨fu - 1, by omega⟩
    have e1 : s = 102 := by simpa [layB] using hl
    subst e1
    simp only [gsX_X9_wordKind_1_L1]
    rw [if_pos (show (102 : Int32) ≤ nI 102 from nI_le (a := 102) (Nat.le_refl _) (by decide))]
    rfl
  | cons w ws ih =>
    intro s k fu hl hk hf
    simp only [layB, Bool.and_eq_true, decide_eq_true_eq, List.all_eq_true, List.mem_range, beq_iff_eq, bne_iff_ne] at hl
    obtain ⟨⟨⟨l1, l2⟩, l3⟩, l4⟩ := hl
    have hw : ∀ i, i < w.length → WS.getD (s + i) 0 = w.getD i 0 ∧ w.getD i 0 ≠ 32 ∧ w.getD i 0 < 128 := fun i hi => ⟨(l2 i hi).1.1, (l2 i hi).1.2, (l2 i hi).2⟩
    rw [List.length_cons] at hk
    obtain ⟨a1, a2⟩ := wkIn (NF := NF) (k := k) T h3 h4 hpe hen l1 (by omega) hw l3 w.length 0 1 fu (by omega) (Or.inl ⟨rfl, fun i hi => absurd hi (by omega)⟩) (by omega)
    have hiff : (wM c p e w w.length ∧ p + w.length = e) ↔ (e - p = w.length ∧ ∀ i, i < w.length → c (p + i) = w.getD i 0) := by
      constructor
      · intro h
        exact ⟨by omega, fun i hi => (h.1 i hi).2⟩
      · intro h
        exact ⟨fun i hi => ⟨by omega, h.2 i hi⟩, by omega⟩
    by_cases hm : e - p = w.length ∧ ∀ i, i < w.length → c (p + i) = w.getD i 0
    · rw [show nI (lx_k c p (e - p) (w :: ws) k) = nI k by unfold lx_k; rw [if_pos hm]]
      exact a1 (hiff.mpr hm)
    · rw [show lx_k c p (e - p) (w :: ws) k = lx_k c p (e - p) ws (k + 1) by rw [lx_k]; rw [if_neg hm]]
      exact (a2 (fun z => hm (hiff.mp z))).trans (ih (s + w.length + 1) (k + 1) (fu - w.length - 1) l4 (by omega) (by omega))
theorem xWK {c : Nat → Nat} {n : Nat} {v : Nat → Int32} {f : Nat → Nat → Int32} (T : TX c n v f) {p e : Nat} (h3 : v 3 = nI p) (h4 : v 4 = nI e) (hpe : p ≤ e) (hen : e ≤ n) : gsX_X9_wordKind_1 NF v f = nI (lx_k c p (e - p) lx_W 101) := by
  unfold gsX_X9_wordKind_1
  exact wkOut T h3 h4 hpe hen lx_W 0 101 (4294967296 + NF) layWL (by decide) (by omega)
theorem lx_k_rng (c : Nat → Nat) (p len : Nat) : ∀ (ws : List (List Nat)) (k : Nat), lx_k c p len ws k = 3 ∨ (k ≤ lx_k c p len ws k ∧ lx_k c p len ws k < k + ws.length) := by
  intro ws
  induction ws with
  | nil => intro k; exact Or.inl rfl
  | cons w ws ih =>
    intro k
    rw [lx_k, List.length_cons]
    by_cases h : len = w.length ∧ ∀ i, i < w.length → c (p + i) = w.getD i 0
    · rw [if_pos h]; exact Or.inr ⟨Nat.le_refl _, by omega⟩
    · rw [if_neg h]
      rcases ih (k + 1) with q | q
      · exact Or.inl q
      · exact Or.inr ⟨by omega, by omega⟩
theorem lx_k_W (c : Nat → Nat) (p len : Nat) : lx_k c p len lx_W 101 = 3 ∨ (101 ≤ lx_k c p len lx_W 101 ∧ lx_k c p len lx_W 101 ≤ 121) := by
  rcases lx_k_rng c p len lx_W 101 with h | h
  · exact Or.inl h
  · have : lx_W.length = 21 := rfl
    exact Or.inr ⟨h.1, by omega⟩
end
end
section
section
variable {NF : Nat}
theorem xL9 {c : Nat → Nat} {n : Nat} {v : Nat → Int32} {f : Nat → Nat → Int32} (hv : v 1 = nI n) : ∀ (fu pos : Nat) (v9 : Nat → Int32), TX c n v9 f → v9 4 = nI pos → pos ≤ n → n - pos < fu → ∃ v', (∀ k, k ≠ 4 → v' k = v9 k) ∧ v' 4 = nI (lx_c lx_l c n pos) ∧ gsX_X9_advance_1_L9 NF v fu v9 f = gsX_X9_advance_1_J10 NF f v' := by
  intro fu
  induction fu with
  | zero => intro pos v9 _ _ _ h; exact absurd h (Nat.not_lt_zero _)
  | succ fu ih =>
    intro pos v9 T h4 hpn hm
    have hn := T.2.1
    by_cases h : pos < n ∧ lx_l (c pos) = true
    · obtain ⟨v', a, b, e⟩ := ih (pos + 1) (upd v9 4 (nI (pos + 1))) (T.upd (by decide)) pk_us (by omega) (by omega)
      refine ⟨v', fun k hk => (a k hk).trans (pk_un hk), by rw [lx_cs h.1 h.2]; exact b, ?_⟩
      simp only [gsX_X9_advance_1_L9, hv, h4]
      rw [if_neg (nI_ge h.1 (by omega)), xLet T (by omega), if_pos h, ite11, nI_1]
      exact e
    · refine ⟨v9, fun k _ => rfl, by rw [lx_c0 h]; exact h4, ?_⟩
      simp only [gsX_X9_advance_1_L9, hv, h4]
      by_cases h2 : pos < n
      · rw [if_neg (nI_ge h2 (by omega)), xLet T (by omega), if_neg h, ite01]
      · rw [if_pos (nI_le (by omega) (by omega))]
theorem xL27 {c : Nat → Nat} {n : Nat} {v : Nat → Int32} {f : Nat → Nat → Int32} (hv : v 1 = nI n) : ∀ (fu pos : Nat) (v9 : Nat → Int32), TX c n v9 f → v9 4 = nI pos → pos ≤ n → n - pos < fu → ∃ v', (∀ k, k ≠ 4 → k ≠ 5 → v' k = v9 k) ∧ v' 4 = nI (lx_c lx_d c n pos) ∧ v' 5 = nxF c (lx_c lx_d c n pos - pos) pos (v9 5) ∧ gsX_X9_advance_1_L27 NF v fu v9 f = gsX_X9_advance_1_J28 NF f v' := by
  intro fu
  induction fu with
  | zero => intro pos v9 _ _ _ h; exact absurd h (Nat.not_lt_zero _)
  | succ fu ih =>
    intro pos v9 T h4 hpn hm
    have hn := T.2.1
    by_cases h : pos < n ∧ lx_d (c pos) = true
    · obtain ⟨v', a, b, d, e⟩ := ih (pos + 1) (upd (upd v9 5 (v9 5 * 10 + sb_b (c pos) - 48)) 4 (nI (pos + 1))) ((T.upd (by decide)).upd (by decide)) pk_us (by omega) (by omega)
      have hg := lx_cge lx_d c n (pos + 1)
      refine ⟨v', fun k hk hk5 => (a k hk hk5).trans ((pk_un hk).trans (pk_un hk5)), by rw [lx_cs h.1 h.2]; exact b, ?_, ?_⟩
      · rw [lx_cs h.1 h.2, d, show lx_c lx_d c n (pos + 1) - pos = (lx_c lx_d c n (pos + 1) - (pos + 1)) + 1 by omega]
        rw [pk_un (show (5 : Nat) ≠ 4 by decide), pk_us]
        rfl
      · simp only [gsX_X9_advance_1_L27, hv, h4]
        rw [if_neg (nI_ge h.1 (by omega)), xDig T (by omega), if_pos h, ite11, nI_1, nI_clamp (by omega), (T.2.2 pos h.1).2]
        exact e
    · refine ⟨v9, fun k _ _ => rfl, by rw [lx_c0 h]; exact h4, by rw [lx_c0 h, Nat.sub_self]; rfl, ?_⟩
      simp only [gsX_X9_advance_1_L27, hv, h4]
      by_cases h2 : pos < n
      · rw [if_neg (nI_ge h2 (by omega)), xDig T (by omega), if_neg h, ite01]
      · rw [if_pos (nI_le (by omega) (by omega))]
theorem xL1 {c : Nat → Nat} {n : Nat} {v : Nat → Int32} {f : Nat → Nat → Int32} (hv : v 1 = nI n) : ∀ (fu pos : Nat) (v9 : Nat → Int32), TX c n v9 f → v9 3 = nI pos → pos ≤ n → n - pos < fu → ∃ v', (∀ k, k ≠ 3 → v' k = v9 k) ∧ v' 3 = nI (lx_c lx_b c n pos) ∧ gsX_X9_advance_1_L1 NF v fu v9 f = gsX_X9_advance_1_J2 NF v f v' := by
  intro fu
  induction fu with
  | zero => intro pos v9 _ _ _ h; exact absurd h (Nat.not_lt_zero _)
  | succ fu ih =>
    intro pos v9 T h4 hpn hm
    have hn := T.2.1
    by_cases h2 : pos < n
    · obtain ⟨b1, b2, b3⟩ := cl_b (c pos) (T.2.2 pos h2).1
      by_cases h : lx_b (c pos) = true
      · obtain ⟨v', a, b, e⟩ := ih (pos + 1) (upd v9 3 (nI (pos + 1))) (T.upd (by decide)) pk_us (by omega) (by omega)
        refine ⟨v', fun k hk => (a k hk).trans (pk_un hk), by rw [lx_cs h2 h]; exact b, ?_⟩
        simp only [gsX_X9_advance_1_L1, hv, h4, nI_1]
        rw [if_neg (nI_ge h2 (by omega)), nI_clamp (by omega), (T.2.2 pos h2).2]
        rcases b3.mp h with q | q
        · rw [if_pos (b1.mpr q)]; exact e
        · by_cases q2 : sb_b (c pos) = 32
          · rw [if_pos q2]; exact e
          · rw [if_neg q2, if_pos (b2.mpr q)]; exact e
      · refine ⟨v9, fun k _ => rfl, by rw [lx_c0 (fun z => h z.2)]; exact h4, ?_⟩
        simp only [gsX_X9_advance_1_L1, hv, h4, nI_1]
        rw [if_neg (nI_ge h2 (by omega)), nI_clamp (by omega), (T.2.2 pos h2).2, if_neg (fun z => h (b3.mpr (Or.inl (b1.mp z)))), if_neg (fun z => h (b3.mpr (Or.inr (b2.mp z))))]
    · refine ⟨v9, fun k _ => rfl, by rw [lx_c0 (fun z => h2 z.1)]; exact h4, ?_⟩
      simp only [gsX_X9_advance_1_L1, hv, h4]
      rw [if_pos (nI_le (by omega) (by omega))]
theorem ixL {t : Int32} : ∀ (fu k : Nat), k ≤ 11 → 11 - k < fu → (gsX_J1_indexOfChar_4cfef_1_L2 NF 11 t fu (nI k) < 0 ↔ ∀ j, k ≤ j → j < 11 → ¬ (sBYT.getD 0 []).getD j 0 = t) := by
  intro fu
  induction fu with
  | zero => intro k _ h; exact absurd h (Nat.not_lt_zero _)
  | succ fu ih =>
    intro k hk hf
    simp only [gsX_J1_indexOfChar_4cfef_1_L2]
    by_cases h : k < 11
    · rw [if_neg (show ¬ (11 : Int32) ≤ nI k from nI_ge (b := 11) h (by omega)), nI_clamp (by omega), nI_1]
      by_cases e : (sBYT.getD 0 []).getD k 0 = t
      · rw [if_pos e]
        exact ⟨fun z => absurd z (nI_pos (by omega)), fun z => absurd e (z k (Nat.le_refl _) h)⟩
      · rw [if_neg e, ih (k + 1) (by omega) (by omega)]
        constructor
        · intro z j h1 h2
          by_cases q : j = k
          · rw [q]; exact e
          · exact z j (by omega) h2
        · intro z j h1 h2
          exact z j (by omega) h2
    · rw [if_pos (show (11 : Int32) ≤ nI k from nI_le (a := 11) (by omega) (by omega))]
      exact ⟨fun _ j h1 h2 => absurd h2 (by omega), fun _ => by decide⟩
theorem gix1 : ∀ c, c < 256 → (lx_s c = true ↔ ∃ j, j < 11 ∧ (sBYT.getD 0 []).getD j 0 = (nI c).toInt8.toInt32) := by decide +kernel
theorem gix2 : ∀ c, c < 256 → gsX_J1_canEncode_9a6ad_1 0 (nI c) zV zVV = 1 := by decide +kernel
theorem gix {v : Nat → Int32} {f : Nat → Nat → Int32} {c : Nat} (h : c < 256) : gsX_J0_indexOf_0f7a4_1 NF (nI c) v f < 0 ↔ ¬ lx_s c = true := by
  have e : gsX_J0_indexOf_0f7a4_1 NF (nI c) v f = gsX_J1_indexOfChar_4cfef_1_L2 NF 11 (nI c).toInt8.toInt32 (4294967296 + NF) (nI 0) := by
    show (if gsX_J1_canEncode_9a6ad_1 NF (nI c) v f = 1 then _ else _) = _
    rw [show gsX_J1_canEncode_9a6ad_1 NF (nI c) v f = 1 from gix2 c h, if_pos rfl]
    rfl
  rw [e, ixL (4294967296 + NF) 0 (by decide) (by omega), gix1 c h]
  constructor
  · rintro z ⟨j, h1, h2⟩
    exact z j (Nat.zero_le _) h1 h2
  · intro z j _ h1 h2
    exact z ⟨j, h1, h2⟩
def ADV (c : Nat → Nat) (n p : Nat) (v v' : Nat → Int32) : Prop := (∀ k, k ≠ 2 → k ≠ 3 → k ≠ 4 → k ≠ 5 → v' k = v k) ∧ v' 2 = nI (tK c n p) ∧ v' 3 = nI p ∧ v' 4 = nI (tE c n p) ∧ (tK c n p = 2 → v' 5 = tN c n p)
theorem xJ2 {c : Nat → Nat} {n : Nat} {v v1 : Nat → Int32} {f : Nat → Nat → Int32} (hv : v 1 = nI n) (T : TX c n v1 f) {p : Nat} (h3 : v1 3 = nI p) (hpn : p ≤ n) : ∃ v', gsX_X9_advance_1_J2 NF v f v1 = (v', f) ∧ ADV c n p v1 v' := by
  have hn := T.2.1
  simp only [gsX_X9_advance_1_J2, hv, h3]
  by_cases hp : p < n
  · rw [if_pos (nI_lt hp (by omega)), xLet (T.upd (by decide)) (by omega)]
    have hcp := T.2.2 p hp
    have hnp : ¬ n ≤ p := by omega
    by_cases hl : lx_l (c p) = true
    · rw [if_pos (And.intro hp hl), ite11]
      obtain ⟨v', a, b, e⟩ := xL9 hv (4294967296 + NF) p (upd v1 4 (nI p)) (T.upd (by decide)) pk_us hpn (by omega)
      have hE : tE c n p = lx_c lx_l c n p := by unfold tE; rw [if_neg hnp, if_pos hl]
      have hg := lx_cge lx_l c n p
      have hle := lx_cle lx_l c hpn
      have a3 : v' 3 = nI p := (a 3 (by decide)).trans ((pk_un (by decide)).trans h3)
      have T' : TX c n v' f := (T.upd (k := 4) (x := nI p) (by decide)).of (a 1 (by decide)) rfl
      rw [e]
      simp only [gsX_X9_advance_1_J10, b, a3, pk_sub hg]
      by_cases h8 : 8 < lx_c lx_l c n p - p
      · rw [if_neg (show ¬ nI (lx_c lx_l c n p - p) ≤ (8 : Int32) from nI_ge (a := 8) h8 (by omega))]
        refine ⟨_, rfl, fun k k2 k3 k4 k5 => (pk_un k2).trans ((a k k4).trans (pk_un k4)), ?_, (pk_un (by decide)).trans a3, (pk_un (by decide)).trans (by rw [b, hE]), ?_⟩
        · rw [pk_us]; unfold tK; rw [if_neg hnp, if_pos hl, hE, if_pos h8]; rfl
        · intro z; exfalso; revert z; unfold tK; rw [if_neg hnp, if_pos hl, hE, if_pos h8]; decide
      · rw [if_pos (show nI (lx_c lx_l c n p - p) ≤ (8 : Int32) from nI_le (b := 8) (by omega) (by omega)), xWK T' a3 b hg hle]
        refine ⟨_, rfl, fun k k2 k3 k4 k5 => (pk_un k2).trans ((a k k4).trans (pk_un k4)), ?_, (pk_un (by decide)).trans a3, (pk_un (by decide)).trans (by rw [b, hE]), ?_⟩
        · rw [pk_us]; unfold tK; rw [if_neg hnp, if_pos hl, hE, if_neg h8]
        · intro z; exfalso; revert z; unfold tK; rw [if_neg hnp, if_pos hl, hE, if_neg h8]; intro z; rcases lx_k_W c p (lx_c lx_l c n p - p) with q | q <;> omega
    · rw [if_neg (show ¬ (p < n ∧ lx_l (c p) = true) from fun z => hl z.2), ite01, xDig (T.upd (by decide)) (by omega)]
      by_cases hd : lx_d (c p) = true
      · rw [if_pos (And.intro hp hd), ite11]
        obtain ⟨v', a, b, d, e⟩ := xL27 hv (4294967296 + NF) p (upd (upd v1 4 (nI p)) 5 0) ((T.upd (by decide)).upd (by decide)) ((pk_un (by decide)).trans pk_us) hpn (by omega)
        have hE : tE c n p = lx_c lx_d c n p := by unfold tE; rw [if_neg hnp, if_neg hl, if_pos hd]
        have hg := lx_cge lx_d c n p
        have hle := lx_cle lx_d c hpn
        have a3 : v' 3 = nI p := (a 3 (by decide) (by decide)).trans ((pk_un (by decide)).trans ((pk_un (by decide)).trans h3))
        have T' : TX c n v' f := ((T.upd (k := 4) (x := nI p) (by decide)).upd (k := 5) (x := 0) (by decide)).of (a 1 (by decide) (by decide)) rfl
        have hK : tK c n p = if 4 < lx_c lx_d c n p - p ∨ (lx_c lx_d c n p < n ∧ lx_l (c (lx_c lx_d c n p)) = true) then 1 else 2 := by unfold tK; rw [if_neg hnp, if_neg hl, if_pos hd, hE]
        have d5 : v' 5 = tN c n p := by rw [d, pk_us]; unfold tN; rw [hE]
        rw [e]
        simp only [gsX_X9_advance_1_J28, b, a3, pk_sub hg, xLet T' (show lx_c lx_d c n p < 2 ^ 31 by omega)]
        have fr : ∀ (x : Int32) k, k ≠ 2 → k ≠ 3 → k ≠ 4 → k ≠ 5 → upd v' 2 x k = v1 k := fun x k k2 k3 k4 k5 => (pk_un k2).trans ((a k k4 k5).trans ((pk_un k5).trans (pk_un k4)))
        by_cases h4 : 4 < lx_c lx_d c n p - p
        · rw [if_pos (show (4 : Int32) < nI (lx_c lx_d c n p - p) from nI_lt (a := 4) h4 (by omega))]
          refine ⟨_, rfl, fr _, ?_, (pk_un (by decide)).trans a3, (pk_un (by decide)).trans (by rw [b, hE]), fun _ => (pk_un (by decide)).trans d5⟩
          rw [pk_us, hK, if_pos (Or.inl h4)]; rfl
        · rw [if_neg (show ¬ (4 : Int32) < nI (lx_c lx_d c n p - p) from nI_nlt (a := 4) (by omega) (by omega))]
          by_cases h5 : lx_c lx_d c n p < n ∧ lx_l (c (lx_c lx_d c n p)) = true
          · rw [if_pos h5, ite11]
            refine ⟨_, rfl, fr _, ?_, (pk_un (by decide)).trans a3, (pk_un (by decide)).trans (by rw [b, hE]), fun _ => (pk_un (by decide)).trans d5⟩
            rw [pk_us, hK, if_pos (Or.inr h5)]; rfl
          · rw [if_neg h5, ite01]
            refine ⟨_, rfl, fr _, ?_, (pk_un (by decide)).trans a3, (pk_un (by decide)).trans (by rw [b, hE]), fun _ => (pk_un (by decide)).trans d5⟩
            rw [pk_us, hK, if_neg (fun z => z.elim h4 h5)]; rfl
      · rw [if_neg (show ¬ (p < n ∧ lx_d (c p) = true) from fun z => hd z.2), ite01, nI_clamp (by omega), hcp.2, (sb_byte _ hcp.1).1, (sb_byte _ hcp.1).2.1]
        have hE : tE c n p = p + 1 := by unfold tE; rw [if_neg hnp, if_neg hl, if_neg hd]
        have hK : tK c n p = if lx_s (c p) = true then c p else 1 := by unfold tK; rw [if_neg hnp, if_neg hl, if_neg hd]
        have fr : ∀ (x y : Int32) k, k ≠ 2 → k ≠ 3 → k ≠ 4 → k ≠ 5 → upd (upd (upd v1 4 (nI p)) 4 y) 2 x k = v1 k := fun x y k k2 k3 k4 k5 => (pk_un k2).trans ((pk_un k4).trans (pk_un k4))
        have n2 : ∀ x, x < 256 → (if lx_s x = true then x else 1) ≠ 2 := by decide +kernel
        by_cases hs : lx_s (c p) = true
        · rw [if_neg (fun z => (gix hcp.1).mp z hs)]
          refine ⟨_, rfl, fr _ _, ?_, (pk_un (by decide)).trans ((pk_un (by decide)).trans ((pk_un (by decide)).trans h3)), (pk_un (by decide)).trans (by rw [pk_us, hE, nI_1]), fun z => absurd (hK.symm.trans z) (n2 _ hcp.1)⟩
          rw [pk_us, hK, if_pos hs, cl_s _ hcp.1 hs]
        · rw [if_pos ((gix hcp.1).mpr hs)]
          refine ⟨_, rfl, fr _ _, ?_, (pk_un (by decide)).trans ((pk_un (by decide)).trans ((pk_un (by decide)).trans h3)), (pk_un (by decide)).trans (by rw [pk_us, hE, nI_1]), fun z => absurd (hK.symm.trans z) (n2 _ hcp.1)⟩
          rw [pk_us, hK, if_neg hs]; rfl
  · have e1 : n ≤ p := by omega
    rw [if_neg (nI_nlt e1 (by omega))]
    have hE : tE c n p = p := by unfold tE; rw [if_pos e1]
    have hK : tK c n p = 0 := by unfold tK; rw [if_pos e1]
    refine ⟨_, rfl, fun k k2 k3 k4 k5 => (pk_un k2).trans (pk_un k4), ?_, (pk_un (by decide)).trans ((pk_un (by decide)).trans h3), (pk_un (by decide)).trans (by rw [pk_us, hE]), fun z => absurd (hK.symm.trans z) (by decide)⟩
    rw [pk_us, hK]; rfl
theorem xAdv {c : Nat → Nat} {n : Nat} {v : Nat → Int32} {f : Nat → Nat → Int32} (T : TX c n v f) {b : Nat} (h4 : v 4 = nI b) (hb : b ≤ n) : ∃ v', gsX_X9_advance_1 NF v f = (v', f) ∧ ADV c n (tP c n b) v v' := by
  have hn := T.2.1
  unfold gsX_X9_advance_1
  obtain ⟨v1, a, e3, e⟩ := xL1 T.1 (4294967296 + NF) b (upd v 3 (v 4)) (T.upd (by decide)) (pk_us.trans h4) hb (by omega)
  have T1 : TX c n v1 f := (T.upd (k := 3) (x := v 4) (by decide)).of (a 1 (by decide)) rfl
  obtain ⟨v', q1, q2, q3⟩ := xJ2 T.1 T1 e3 (lx_cle lx_b c hb)
  exact ⟨v', e.trans q1, fun k k2 k3 k4 k5 => (q2 k k2 k3 k4 k5).trans ((a k k3).trans (pk_un k3)), q3⟩
end
end
section
section
variable {NF : Nat}
def TY (c : Nat → Nat) (n : Nat) (v : Nat → Int32) (f : Nat → Nat → Int32) : Prop := v 4 = nI n ∧ n ≤ 1600 ∧ ∀ k, k < n → c k < 256 ∧ f 0 k = nI (c k)
theorem TY.upd {c : Nat → Nat} {n : Nat} {v : Nat → Int32} {f : Nat → Nat → Int32} (T : TY c n v f) {k : Nat} {x : Int32} (h : k ≠ 4) : TY c n (upd v k x) f := ⟨(pk_un (Ne.symm h)).trans T.1, T.2⟩
theorem TY.of {c : Nat → Nat} {n : Nat} {v v' : Nat → Int32} {f f' : Nat → Nat → Int32} (T : TY c n v f) (h : v' 4 = v 4) (hf : f' 0 = f 0) : TY c n v' f' := ⟨h.trans T.1, T.2.1, by rw [hf]; exact T.2.2⟩
theorem yHere {c : Nat → Nat} {n : Nat} {v : Nat → Int32} {f : Nat → Nat → Int32} (T : TY c n v f) (w : Int64) (g : Nat → Int64) {a k : Nat} (h3 : v 3 = nI a) (hk : a + k < 2 ^ 31) : gsY_X11_here_1 NF (nI k) v f w g = if a + k < n then nI (c (a + k)) else -1 := by
  obtain ⟨h1, hn, hc⟩ := T
  simp only [gsY_X11_here_1, h1, h3, nI_add]
  by_cases h : a + k < n
  · rw [if_neg (nI_ge h (by omega)), nI_clamp hk, (hc _ h).2, if_pos h]
  · rw [if_pos (nI_le (by omega) hk), if_neg h]
theorem yHere0 {c : Nat → Nat} {n : Nat} {v : Nat → Int32} {f : Nat → Nat → Int32} (T : TY c n v f) (w : Int64) (g : Nat → Int64) {a : Nat} (h3 : v 3 = nI a) (hk : a < 2 ^ 31) : gsY_X11_here_1 NF 0 v f w g = if a < n then nI (c a) else -1 := yHere T w g (k := 0) h3 hk
theorem yLet {c : Nat → Nat} {n : Nat} {v : Nat → Int32} {f : Nat → Nat → Int32} {v0 : Nat → Int32} (T : TY c n v0 f) (w : Int64) (g : Nat → Int64) (a : Nat) : gsY_X11_isLetter_1 NF (if a < n then nI (c a) else -1) v f w g = if a < n ∧ lx_l (c a) = true then 1 else 0 := by
  by_cases h : a < n
  · rw [if_pos h, show gsY_X11_isLetter_1 NF (nI (c a)) v f w g = (if nI (c a) < 97 then (0 : Int32) else if 122 < nI (c a) then 0 else 1) from rfl, yl_l (c a) (T.2.2 a h).1]
    by_cases q : lx_l (c a) = true
    · rw [if_pos q, if_pos ⟨h, q⟩]
    · rw [if_neg q, if_neg (fun z => q z.2)]
  · rw [if_neg h, if_neg (fun z => h z.1)]; rfl
theorem yDig {c : Nat → Nat} {n : Nat} {v : Nat → Int32} {f : Nat → Nat → Int32} {v0 : Nat → Int32} (T : TY c n v0 f) (w : Int64) (g : Nat → Int64) (a : Nat) : gsY_X11_isDigit_1 NF (if a < n then nI (c a) else -1) v f w g = if a < n ∧ lx_d (c a) = true then 1 else 0 := by
  by_cases h : a < n
  · rw [if_pos h, show gsY_X11_isDigit_1 NF (nI (c a)) v f w g = (if nI (c a) < 48 then (0 : Int32) else if 57 < nI (c a) then 0 else 1) from rfl, yl_d (c a) (T.2.2 a h).1]
    by_cases q : lx_d (c a) = true
    · rw [if_pos q, if_pos ⟨h, q⟩]
    · rw [if_neg q, if_neg (fun z => q z.2)]
  · rw [if_neg h, if_neg (fun z => h z.1)]; rfl
theorem yL20 {c : Nat → Nat} {n : Nat} {v1 v2 : Nat → Int32} {f : Nat → Nat → Int32} {g : Nat → Int64} {p : Nat} (T : TY c n v2 f) (h1 : v1 3 = nI p) (h2 : v2 3 = nI p) : ∀ (fu k : Nat) (w : Int64), p + k ≤ n → n - (p + k) < fu →
    gsY_X11_token_1_L20 NF v1 fu (nI k) v2 f w g = if lx_c lx_l c n (p + k) - p ≤ 8 then (upd (upd v2 5 1) 3 (nI (lx_c lx_l c n (p + k))), f, wvF c (min (lx_c lx_l c n (p + k) - p) 8 - k) (p + k) w, g) else (upd v2 5 3, f, wvF c (min (lx_c lx_l c n (p + k) - p) 8 - k) (p + k) w, g) := by
  intro fu
  have hn := T.2.1
  induction fu with
  | zero => intro k w _ h; exact absurd h (Nat.not_lt_zero _)
  | succ fu ih =>
    intro k w hk hm
    simp only [gsY_X11_token_1_L20, yHere T _ _ h2 (show p + k < 2 ^ 31 by omega), yLet T, nI_1, h1]
    by_cases h : p + k < n ∧ lx_l (c (p + k)) = true
    · have hg := lx_cge lx_l c n (p + k + 1)
      rw [if_pos h, ite11, lx_cs h.1 h.2]
      by_cases h8 : 8 ≤ k
      · rw [if_pos (show (8 : Int32) ≤ nI k from nI_le (a := 8) h8 (by omega)), ih (k + 1) w (by omega) (by omega)]
        rw [show p + (k + 1) = p + k + 1 by omega, show min (lx_c lx_l c n (p + k + 1) - p) 8 - (k + 1) = 0 by omega, show min (lx_c lx_l c n (p + k + 1) - p) 8 - k = 0 by omega]
        rfl
      · rw [if_neg (show ¬ (8 : Int32) ≤ nI k from nI_ge (b := 8) (by omega) (by omega)), if_pos h.1, ih (k + 1) _ (by omega) (by omega)]
        rw [show p + (k + 1) = p + k + 1 by omega, show min (lx_c lx_l c n (p + k + 1) - p) 8 - k = (min (lx_c lx_l c n (p + k + 1) - p) 8 - (k + 1)) + 1 by omega]
        rfl
    · rw [if_neg h, ite01, lx_c0 h, show p + k - p = k by omega, show min k 8 - k = 0 by omega, nI_add]
      by_cases h8 : k ≤ 8
      · rw [if_pos (show nI k ≤ (8 : Int32) from nI_le (b := 8) h8 (by omega)), if_pos h8]; rfl
      · rw [if_neg (show ¬ nI k ≤ (8 : Int32) from nI_ge (a := 8) (by omega) (by omega)), if_neg h8]; rfl
theorem yL47 {c : Nat → Nat} {n : Nat} {v1 : Nat → Int32} {f : Nat → Nat → Int32} {g : Nat → Int64} {p : Nat} (h1 : v1 3 = nI p) : ∀ (fu k : Nat) (v2 : Nat → Int32) (w : Int64), TY c n v2 f → v2 3 = nI p → p + k ≤ n → n - (p + k) < fu →
    ∃ v', (∀ j, j ≠ 7 → v' j = v2 j) ∧ (lx_c lx_d c n (p + k) - p ≤ 4 → v' 7 = nxF c (lx_c lx_d c n (p + k) - (p + k)) (p + k) (v2 7)) ∧
    gsY_X11_token_1_L47 NF v1 fu (nI k) v2 f w g = if 4 < lx_c lx_d c n (p + k) - p ∨ (lx_c lx_d c n (p + k) < n ∧ lx_l (c (lx_c lx_d c n (p + k))) = true) then (upd v' 5 3, f, w, g) else (upd (upd v' 5 2) 3 (nI (lx_c lx_d c n (p + k))), f, w, g) := by
  intro fu
  induction fu with
  | zero => intro k v2 w _ _ _ h; exact absurd h (Nat.not_lt_zero _)
  | succ fu ih =>
    intro k v2 w T h2 hk hm
    have hn := T.2.1
    by_cases h : p + k < n ∧ lx_d (c (p + k)) = true
    · have hg := lx_cge lx_d c n (p + k + 1)
      rw [lx_cs h.1 h.2]
      by_cases h4 : 4 ≤ k
      · obtain ⟨v', a, b, e⟩ := ih (k + 1) v2 w T h2 (by omega) (by omega)
        rw [show p + (k + 1) = p + k + 1 by omega] at b e
        refine ⟨v', a, fun z => by omega, ?_⟩
        simp only [gsY_X11_token_1_L47, yHere T _ _ h2 (show p + k < 2 ^ 31 by omega), yDig T, nI_1]
        rw [if_pos h, ite11, if_pos (show (4 : Int32) ≤ nI k from nI_le (a := 4) h4 (by omega))]
        exact e
      · obtain ⟨v', a, b, e⟩ := ih (k + 1) (upd v2 7 (10 * v2 7 + nI (c (p + k)) - 48)) w (T.upd (by decide)) ((pk_un (by decide)).trans h2) (by omega) (by omega)
        rw [show p + (k + 1) = p + k + 1 by omega] at b e
        refine ⟨v', fun j hj => (a j hj).trans (pk_un hj), fun z => ?_, ?_⟩
        · rw [b z, pk_us, show lx_c lx_d c n (p + k + 1) - (p + k) = (lx_c lx_d c n (p + k + 1) - (p + k + 1)) + 1 by omega]
          show _ = nxF c _ (p + k + 1) (v2 7 * 10 + sb_b (c (p + k)) - 48)
          rw [cl_dn _ (T.2.2 _ h.1).1 h.2, Int32.mul_comm]
        · simp only [gsY_X11_token_1_L47, yHere T _ _ h2 (show p + k < 2 ^ 31 by omega), yDig T, nI_1]
          rw [if_pos h, ite11, if_neg (show ¬ (4 : Int32) ≤ nI k from nI_ge (b := 4) (by omega) (by omega)), if_pos h.1]
          exact e
    · rw [lx_c0 h, show p + k - p = k by omega]
      refine ⟨v2, fun j _ => rfl, fun _ => by rw [Nat.sub_self]; rfl, ?_⟩
      simp only [gsY_X11_token_1_L47, yHere T _ _ h2 (show p + k < 2 ^ 31 by omega), yDig T, yLet T, nI_1, h1]
      rw [if_neg h, ite01, nI_add]
      by_cases h4 : 4 < k
      · rw [if_pos (show (4 : Int32) < nI k from nI_lt (a := 4) h4 (by omega)), if_pos (Or.inl h4)]
      · rw [if_neg (show ¬ (4 : Int32) < nI k from nI_nlt (a := 4) (by omega) (by omega))]
        by_cases h5 : p + k < n ∧ lx_l (c (p + k)) = true
        · rw [if_pos h5, ite11, if_pos (Or.inr h5)]
        · rw [if_neg h5, ite01, if_neg (fun z => z.elim h4 h5)]
def tS (k : Nat) : Nat := if k = 1 then 3 else if k = 3 ∨ 101 ≤ k then 1 else k
def TOK (c : Nat → Nat) (n p : Nat) (v v' : Nat → Int32) (w' : Int64) : Prop := (∀ k, k ≠ 3 → k ≠ 5 → k ≠ 6 → k ≠ 7 → v' k = v k) ∧ v' 6 = nI p ∧ v' 5 = nI (tS (tK c n p)) ∧ (tK c n p ≠ 1 → v' 3 = nI (tE c n p)) ∧ (tK c n p = 2 → v' 7 = tN c n p) ∧ (tS (tK c n p) = 1 → w' = tW c n p)
theorem yBl {c : Nat → Nat} {n : Nat} {f : Nat → Nat → Int32} {w : Int64} {g : Nat → Int64} : ∀ (fu pos : Nat) (v1 : Nat → Int32), TY c n v1 f → v1 3 = nI pos → pos ≤ n → n - pos < fu → ∃ (v' : Nat → Int32) (fu' : Nat), (∀ k, k ≠ 3 → v' k = v1 k) ∧ v' 3 = nI (lx_c lx_b c n pos) ∧ gsY_X11_token_1_L1 NF fu v1 f w g = gsY_X11_token_1_L1 NF (fu' + 1) v' f w g := by
  intro fu
  induction fu with
  | zero => intro pos v1 _ _ _ h; exact absurd h (Nat.not_lt_zero _)
  | succ fu ih =>
    intro pos v1 T h3 hpn hm
    have hn := T.2.1
    by_cases h : pos < n ∧ lx_b (c pos) = true
    · obtain ⟨v', fu', a, b, e⟩ := ih (pos + 1) (upd v1 3 (nI (pos + 1))) (T.upd (by decide)) pk_us (by omega) (by omega)
      refine ⟨v', fu', fun k hk => (a k hk).trans (pk_un hk), by rw [lx_cs h.1 h.2]; exact b, ?_⟩
      obtain ⟨b1, b2, _⟩ := yl_b (c pos) (T.2.2 pos h.1).1
      have b3 := (cl_b (c pos) (T.2.2 pos h.1).1).2.2.mp h.2
      rw [← e]
      simp only [gsY_X11_token_1_L1, yHere0 T _ _ h3 (show pos < 2 ^ 31 by omega)]
      rw [if_pos h.1, h3, nI_1]
      by_cases q : c pos = 32
      · rw [if_pos (b1.mpr q)]
      · rw [if_neg (fun z => q (b1.mp z)), if_pos (b2.mpr (b3.resolve_left q))]
    · exact ⟨v1, fu, fun k _ => rfl, by rw [lx_c0 h]; exact h3, rfl⟩
theorem ySg0 : ∀ c, c < 256 → gsY_X11_isSign_1 0 (nI c) zV zVV 0 (fun _ => 0) = if lx_s c = true then 1 else 0 := by decide +kernel
theorem ySg {v : Nat → Int32} {f : Nat → Nat → Int32} {w : Int64} {g : Nat → Int64} {c : Nat} (h : c < 256) : gsY_X11_isSign_1 NF (nI c) v f w g = if lx_s c = true then 1 else 0 := (show gsY_X11_isSign_1 NF (nI c) v f w g = gsY_X11_isSign_1 0 (nI c) zV zVV 0 (fun _ => 0) from rfl).trans (ySg0 c h)
theorem sgS : ∀ c, c < 256 → lx_s c = true → tS c = c ∧ ¬ nI c = 3 ∧ c ≠ 1 ∧ c ≠ 2 ∧ c ≠ 0 := by decide +kernel
theorem yTok {c : Nat → Nat} {n : Nat} {v : Nat → Int32} {f : Nat → Nat → Int32} {w : Int64} {g : Nat → Int64} (T : TY c n v f) {b : Nat} (h3 : v 3 = nI b) (hb : b ≤ n) : ∃ (v' : Nat → Int32) (w' : Int64), gsY_X11_token_1 NF v f w g = (v', f, w', g) ∧ TOK c n (tP c n b) v v' w' := by
  have hn := T.2.1
  unfold gsY_X11_token_1
  obtain ⟨v1, fu, a, e3, e⟩ := yBl (w := w) (g := g) (4294967296 + NF) b v T h3 hb (by omega)
  rw [e]
  have T1 : TY c n v1 f := T.of (a 4 (by decide)) rfl
  have hpn : tP c n b ≤ n := lx_cle lx_b c hb
  have hbl : ¬ (tP c n b < n ∧ lx_b (c (tP c n b)) = true) := lx_cout lx_b c n b
  have e3 : v1 3 = nI (tP c n b) := e3
  have key : ∃ (v' : Nat → Int32) (w' : Int64), gsY_X11_token_1_L1 NF (fu + 1) v1 f w g = (v', f, w', g) ∧ TOK c n (tP c n b) v1 v' w' := by
    generalize tP c n b = p at hpn hbl e3
    have T6 : TY c n (upd v1 6 (v1 3)) f := T1.upd (by decide)
    simp only [gsY_X11_token_1_L1, yHere0 T1 _ _ e3 (show p < 2 ^ 31 by omega), yHere0 T6 _ _ ((pk_un (show (3 : Nat) ≠ 6 by decide)).trans e3) (show p < 2 ^ 31 by omega), yLet T1, yDig T1]
    by_cases hp : p < n
    · have hcp := (T1.2.2 p hp).1
      obtain ⟨b1, b2, b3⟩ := yl_b (c p) hcp
      have bb := (cl_b (c p) hcp).2.2
      have hnp : ¬ n ≤ p := by omega
      rw [if_pos hp, if_neg (fun z => hbl ⟨hp, bb.mpr (Or.inl (b1.mp z))⟩), if_neg (fun z => hbl ⟨hp, bb.mpr (Or.inr (b2.mp z))⟩), if_pos b3]
      have V3 : ∀ x : Int32, upd (upd v1 6 (v1 3)) 7 x 3 = nI p := fun x => (pk_un (by decide)).trans ((pk_un (by decide)).trans e3)
      have V6 : ∀ x : Int32, upd (upd v1 6 (v1 3)) 7 x 6 = nI p := fun x => (pk_un (by decide)).trans (pk_us.trans e3)
      have fr : ∀ (x : Int32) k, k ≠ 3 → k ≠ 5 → k ≠ 6 → k ≠ 7 → upd (upd v1 6 (v1 3)) 7 x k = v1 k := fun x k _ _ k6 k7 => (pk_un k7).trans (pk_un k6)
      by_cases hl : lx_l (c p) = true
      · rw [if_pos (And.intro hp hl), ite11]
        have hE : tE c n p = lx_c lx_l c n p := by unfold tE; rw [if_neg hnp, if_pos hl]
        have hK : tK c n p = if 8 < lx_c lx_l c n p - p then 1 else lx_k c p (lx_c lx_l c n p - p) lx_W 101 := by unfold tK; rw [if_neg hnp, if_pos hl, hE]
        rw [show (0 : Int32) = nI 0 from rfl, yL20 (T6.upd (by decide)) e3 (V3 _) (4294967296 + NF) 0 0 hpn (by omega)]
        rw [show p + 0 = p from rfl]
        by_cases h8 : 8 < lx_c lx_l c n p - p
        · rw [if_neg (by omega)]
          rw [if_pos h8] at hK
          refine ⟨_, _, rfl, fun k k3 k5 k6 k7 => (pk_un k5).trans (fr _ k k3 k5 k6 k7), (pk_un (by decide)).trans (V6 _), ?_, fun z => absurd hK z, fun z => absurd (hK.symm.trans z) (by decide), fun z => absurd z (by rw [hK]; decide)⟩
          rw [pk_us, hK]; rfl
        · rw [if_pos (by omega)]
          rw [if_neg h8] at hK
          have hr := lx_k_W c p (lx_c lx_l c n p - p)
          rw [← hK] at hr
          have hS : tS (tK c n p) = 1 := by unfold tS; rw [if_neg (by omega), if_pos (by omega)]
          refine ⟨_, _, rfl, fun k k3 k5 k6 k7 => (pk_un k3).trans ((pk_un k5).trans (fr _ k k3 k5 k6 k7)), (pk_un (by decide)).trans ((pk_un (by decide)).trans (V6 _)), ?_, fun _ => pk_us.trans (by rw [hE]), fun z => by omega, fun _ => ?_⟩
          · rw [pk_un (by decide), pk_us, hS]; rfl
          · rw [show min (lx_c lx_l c n p - p) 8 - 0 = lx_c lx_l c n p - p by omega]; unfold tW; rw [hE]
      · rw [if_neg (show ¬ (p < n ∧ lx_l (c p) = true) from fun z => hl z.2), ite01]
        by_cases hd : lx_d (c p) = true
        · rw [if_pos (And.intro hp hd), ite11]
          have hE : tE c n p = lx_c lx_d c n p := by unfold tE; rw [if_neg hnp, if_neg hl, if_pos hd]
          have hK : tK c n p = if 4 < lx_c lx_d c n p - p ∨ (lx_c lx_d c n p < n ∧ lx_l (c (lx_c lx_d c n p)) = true) then 1 else 2 := by unfold tK; rw [if_neg hnp, if_neg hl, if_pos hd, hE]
          obtain ⟨v', a', b', e'⟩ := yL47 (g := g) e3 (4294967296 + NF) 0 (upd (upd v1 6 (v1 3)) 7 0) 0 (T6.upd (by decide)) (V3 _) hpn (by omega)
          rw [show p + 0 = p from rfl] at b' e'
          rw [show gsY_X11_token_1_L47 NF v1 (4294967296 + NF) 0 (upd (upd v1 6 (v1 3)) 7 0) f 0 g = _ from e']
          by_cases h4 : 4 < lx_c lx_d c n p - p ∨ (lx_c lx_d c n p < n ∧ lx_l (c (lx_c lx_d c n p)) = true)
          · rw [if_pos h4]
            rw [if_pos h4] at hK
            refine ⟨_, _, rfl, fun k k3 k5 k6 k7 => (pk_un k5).trans ((a' k k7).trans (fr _ k k3 k5 k6 k7)), (pk_un (by decide)).trans ((a' 6 (by decide)).trans (V6 _)), ?_, fun z => absurd hK z, fun z => absurd (hK.symm.trans z) (by decide), fun z => absurd z (by rw [hK]; decide)⟩
            rw [pk_us, hK]; rfl
          · rw [if_neg h4]
            rw [if_neg h4] at hK
            refine ⟨_, _, rfl, fun k k3 k5 k6 k7 => (pk_un k3).trans ((pk_un k5).trans ((a' k k7).trans (fr _ k k3 k5 k6 k7))), (pk_un (by decide)).trans ((pk_un (by decide)).trans ((a' 6 (by decide)).trans (V6 _))), ?_, fun _ => pk_us.trans (by rw [hE]), fun _ => ?_, fun z => absurd z (by rw [hK]; decide)⟩
            · rw [pk_un (by decide), pk_us, hK]; rfl
            · rw [pk_un (by decide), pk_un (by decide), b' (by omega), pk_us]; unfold tN; rw [hE]
        · rw [if_neg (show ¬ (p < n ∧ lx_d (c p) = true) from fun z => hd z.2), ite01, ySg hcp]
          have hE : tE c n p = p + 1 := by unfold tE; rw [if_neg hnp, if_neg hl, if_neg hd]
          have hK : tK c n p = if lx_s (c p) = true then c p else 1 := by unfold tK; rw [if_neg hnp, if_neg hl, if_neg hd]
          by_cases hs : lx_s (c p) = true
          · obtain ⟨s1, s2, s3, s4, s5⟩ := sgS (c p) hcp hs
            rw [if_pos hs] at hK
            rw [if_pos hs, ite11, if_neg s2, e3, nI_1]
            refine ⟨_, _, rfl, fun k k3 k5 k6 k7 => (pk_un k3).trans ((pk_un k5).trans ((pk_un k7).trans (pk_un k6))), (pk_un (by decide)).trans ((pk_un (by decide)).trans ((pk_un (by decide)).trans pk_us)), ?_, fun _ => pk_us.trans (by rw [hE]), fun z => absurd (hK.symm.trans z) s4, fun z => ?_⟩
            · rw [pk_un (by decide), pk_us, hK, s1]
            · rw [hK, s1] at z; exact absurd z s3
          · rw [if_neg hs] at hK
            rw [if_neg hs, ite01]
            refine ⟨_, _, rfl, fun k k3 k5 k6 k7 => (pk_un k5).trans (fr _ k k3 k5 k6 k7), (pk_un (by decide)).trans (V6 _), ?_, fun z => absurd hK z, fun z => absurd (hK.symm.trans z) (by decide), fun z => absurd z (by rw [hK]; decide)⟩
            rw [pk_us, hK]; rfl
    · have e1 : n ≤ p := by omega
      have hE : tE c n p = p := by unfold tE; rw [if_pos e1]
      have hK : tK c n p = 0 := by unfold tK; rw [if_pos e1]
      rw [if_neg hp, if_neg (show ¬ (-1 : Int32) = 32 by decide), if_neg (show ¬ (-1 : Int32) = 10 by decide), if_neg (show ¬ (0 : Int32) ≤ -1 by decide)]
      refine ⟨_, _, rfl, fun k k3 k5 k6 k7 => (pk_un k3).trans ((pk_un k5).trans ((pk_un k7).trans (pk_un k6))), (pk_un (by decide)).trans ((pk_un (by decide)).trans ((pk_un (by decide)).trans (pk_us.trans e3))), ?_, fun _ => pk_us.trans ?_, fun z => absurd (hK.symm.trans z) (by decide), fun z => absurd z (by rw [hK]; decide)⟩
      · rw [pk_un (by decide), pk_us, hK]; rfl
      · rw [e3, hE]; show nI p + nI 0 = nI p; rw [nI_add, Nat.add_zero]
  obtain ⟨v', w', k1, k2, k3⟩ := key
  exact ⟨v', w', k1, fun k q3 q5 q6 q7 => (k2 k q3 q5 q6 q7).trans (a k q3), k3⟩
end
end
section
section
variable {NF : Nat}
def wStep (x : Int64) (a : Nat) : Int64 := (x <<< ((8 : Int32).toInt64 &&& 63)) ||| (nI a).toInt64
theorem wvF_s (c : Nat → Nat) : ∀ (k p : Nat) (x : Int64), wvF c (k + 1) p x = wStep (wvF c k p x) (c (p + k)) := by
  intro k
  induction k with
  | zero => intro p x; rfl
  | succ k ih =>
    intro p x
    show wvF c (k + 1) (p + 1) (wStep x (c p)) = wStep (wvF c k (p + 1) (wStep x (c p))) (c (p + (k + 1)))
    rw [ih (p + 1) (wStep x (c p)), show p + 1 + k = p + (k + 1) by omega]
def wnF (c : Nat → Nat) : Nat → Nat → Nat
  | 0, _ => 0
  | k + 1, p => 256 * wnF c k p + c (p + k)
theorem wA : ∀ a, a < 256 → (nI a).toInt64.toBitVec.toNat = a := by decide +kernel
theorem wStep_n {x : Int64} {X a : Nat} (hx : x.toBitVec.toNat = X) (hX : 256 * X < 2 ^ 64) (ha : a < 256) : (wStep x a).toBitVec.toNat = 256 * X + a := by
  unfold wStep
  rw [show ((8 : Int32).toInt64 &&& 63) = (8 : Int64) from by decide, Int64.toBitVec_or, BitVec.toNat_or, wA a ha]
  rw [show (x <<< (8 : Int64)).toBitVec = x.toBitVec <<< ((8 : Int64).toBitVec.smod 64).toNat from rfl, show ((8 : Int64).toBitVec.smod 64).toNat = 8 from by decide, BitVec.toNat_shiftLeft, hx, Nat.shiftLeft_eq, Nat.mul_comm X, Nat.mod_eq_of_lt (show 2 ^ 8 * X < 2 ^ 64 by omega)]
  exact (Nat.two_pow_add_eq_or_of_lt (i := 8) ha X).symm
theorem wvF_n {c : Nat → Nat} {p : Nat} : ∀ k, k ≤ 8 → (∀ i, i < k → c (p + i) < 256) → (wvF c k p 0).toBitVec.toNat = wnF c k p ∧ wnF c k p < 256 ^ k := by
  intro k
  induction k with
  | zero => intro _ _; exact ⟨rfl, Nat.zero_lt_one⟩
  | succ k ih =>
    intro hk hc
    obtain ⟨h1, h2⟩ := ih (by omega) (fun i hi => hc i (by omega))
    have h3 : 256 * wnF c k p + c (p + k) < 256 ^ (k + 1) := by
      have := hc k (by omega)
      rw [Nat.pow_succ]
      omega
    have h4 : 256 ^ (k + 1) ≤ 256 ^ 8 := Nat.pow_le_pow_right (by decide) hk
    have h5 : (256 : Nat) ^ 8 = 2 ^ 64 := by decide
    refine ⟨?_, h3⟩
    rw [wvF_s]
    exact wStep_n h1 (by omega) (hc k (by omega))
theorem wn_inj {c d : Nat → Nat} {p q : Nat} : ∀ k l, (∀ i, i < k → 0 < c (p + i) ∧ c (p + i) < 256) → (∀ i, i < l → 0 < d (q + i) ∧ d (q + i) < 256) → wnF c k p = wnF d l q → k = l ∧ ∀ i, i < k → c (p + i) = d (q + i) := by
  intro k
  induction k with
  | zero =>
    intro l _ hd h
    match l with
    | 0 => exact ⟨rfl, fun i hi => absurd hi (by omega)⟩
    | l + 1 => have := hd l (by omega); have h : 0 = 256 * wnF d l q + d (q + l) := h; omega
  | succ k ih =>
    intro l hc hd h
    match l with
    | 0 => have := hc k (by omega); have h : 256 * wnF c k p + c (p + k) = 0 := h; omega
    | l + 1 =>
      have h : 256 * wnF c k p + c (p + k) = 256 * wnF d l q + d (q + l) := h
      have h1 := hc k (by omega)
      have h2 := hd l (by omega)
      obtain ⟨e1, e2⟩ := ih l (fun i hi => hc i (by omega)) (fun i hi => hd i (by omega)) (by omega)
      have hb : c (p + k) = d (q + l) := by omega
      refine ⟨by omega, fun i hi => ?_⟩
      by_cases e : i = k
      · rw [e, hb, e1]
      · exact e2 i (by omega)
theorem wv_inj {c d : Nat → Nat} {p q k l : Nat} (hk : k ≤ 8) (hl : l ≤ 8) (hc : ∀ i, i < k → 0 < c (p + i) ∧ c (p + i) < 256) (hd : ∀ i, i < l → 0 < d (q + i) ∧ d (q + i) < 256) : wvF c k p 0 = wvF d l q 0 ↔ (k = l ∧ ∀ i, i < k → c (p + i) = d (q + i)) := by
  constructor
  · intro h
    have h1 := (wvF_n k hk (fun i hi => (hc i hi).2)).1
    have h2 := (wvF_n l hl (fun i hi => (hd i hi).2)).1
    rw [h, h2] at h1
    exact wn_inj k l hc hd h1.symm
  · rintro ⟨rfl, h⟩
    have e : ∀ m, m ≤ k → wvF c m p 0 = wvF d m q 0 := by
      intro m
      induction m with
      | zero => intro _; rfl
      | succ m ih => intro hm; rw [wvF_s, wvF_s, ih (by omega), h m (by omega)]
    exact e k (Nat.le_refl _)
def wC (k : Nat) : Int64 := wvF (fun i => (lx_W.getD (k - 101) []).getD i 0) (lx_W.getD (k - 101) []).length 0 0
theorem lx_W_ok : ∀ k, k < 21 → (lx_W.getD k []).length ≤ 8 ∧ ∀ i, i < (lx_W.getD k []).length → 0 < (lx_W.getD k []).getD i 0 ∧ (lx_W.getD k []).getD i 0 < 256 := by decide +kernel
theorem lx_W_ne : ∀ a, a < 21 → ∀ b, b < 21 → lx_W.getD a [] = lx_W.getD b [] → a = b := by decide +kernel
theorem lx_k_at (c : Nat → Nat) (p len : Nat) : ∀ (ws : List (List Nat)) (k : Nat), (lx_k c p len ws k = 3 ∧ ∀ j, j < ws.length → ¬ (len = (ws.getD j []).length ∧ ∀ i, i < (ws.getD j []).length → c (p + i) = (ws.getD j []).getD i 0)) ∨ (∃ j, j < ws.length ∧ lx_k c p len ws k = k + j ∧ (len = (ws.getD j []).length ∧ ∀ i, i < (ws.getD j []).length → c (p + i) = (ws.getD j []).getD i 0)) := by
  intro ws
  induction ws with
  | nil => intro k; exact Or.inl ⟨rfl, fun j hj => absurd hj (by simp)⟩
  | cons w ws ih =>
    intro k
    rw [lx_k]
    by_cases h : len = w.length ∧ ∀ i, i < w.length → c (p + i) = w.getD i 0
    · rw [if_pos h]
      exact Or.inr ⟨0, by simp, rfl, h⟩
    · rw [if_neg h]
      rcases ih (k + 1) with ⟨q1, q2⟩ | ⟨j, q1, q2, q3⟩
      · refine Or.inl ⟨q1, fun j hj => ?_⟩
        match j with
        | 0 => exact h
        | j + 1 => rw [List.getD_cons_succ]; exact q2 j (by simpa using hj)
      · exact Or.inr ⟨j + 1, by simpa using q1, by omega, by rw [List.getD_cons_succ]; exact q3⟩
theorem tok_word {c : Nat → Nat} {n p : Nat} (hc : ∀ k, k < n → c k < 256) (h : tS (tK c n p) = 1) : p < n ∧ lx_l (c p) = true ∧ tE c n p = lx_c lx_l c n p ∧ tE c n p - p ≤ 8 ∧ tK c n p = lx_k c p (tE c n p - p) lx_W 101 := by
  unfold tK at h
  by_cases e1 : n ≤ p
  · rw [if_pos e1] at h; exact absurd h (by decide)
  · rw [if_neg e1] at h
    by_cases hl : lx_l (c p) = true
    · rw [if_pos hl] at h
      by_cases h8 : 8 < tE c n p - p
      · rw [if_pos h8] at h; exact absurd h (by decide)
      · exact ⟨by omega, hl, by unfold tE; rw [if_neg e1, if_pos hl], by omega, by unfold tK; rw [if_neg e1, if_pos hl, if_neg h8]⟩
    · rw [if_neg hl] at h
      by_cases hd : lx_d (c p) = true
      · rw [if_pos hd] at h
        by_cases h4 : 4 < tE c n p - p ∨ (tE c n p < n ∧ lx_l (c (tE c n p)) = true)
        · rw [if_pos h4] at h; exact absurd h (by decide)
        · rw [if_neg h4] at h; exact absurd h (by decide)
      · rw [if_neg hd] at h
        by_cases hs : lx_s (c p) = true
        · rw [if_pos hs] at h
          obtain ⟨s1, _, s3, _, _⟩ := sgS (c p) (hc p (by omega)) hs
          exact absurd (s1.symm.trans h) s3
        · rw [if_neg hs] at h; exact absurd h (by decide)
theorem lx_l_pos {a : Nat} (h : lx_l a = true) : 0 < a ∧ a < 256 := by
  simp only [lx_l, Bool.and_eq_true, decide_eq_true_eq] at h
  omega
theorem run_l {c : Nat → Nat} {n p : Nat} : ∀ i, i < lx_c lx_l c n p - p → 0 < c (p + i) ∧ c (p + i) < 256 := fun i hi => lx_l_pos (lx_cin (by omega) (show p + i < lx_c lx_l c n p by omega)).2
theorem tok_W {c : Nat → Nat} {n p k : Nat} (hc : ∀ k, k < n → c k < 256) (h : tS (tK c n p) = 1) (hk1 : 101 ≤ k) (hk2 : k ≤ 121) : tW c n p = wC k ↔ tK c n p = k := by
  obtain ⟨t1, t2, t3, t4, t5⟩ := tok_word hc h
  obtain ⟨o1, o2⟩ := lx_W_ok (k - 101) (by omega)
  have hr : ∀ i, i < tE c n p - p → 0 < c (p + i) ∧ c (p + i) < 256 := by rw [t3]; exact run_l
  have key := wv_inj (c := c) (d := fun i => (lx_W.getD (k - 101) []).getD i 0) (p := p) (q := 0) (k := tE c n p - p) (l := (lx_W.getD (k - 101) []).length) t4 o1 hr (fun i hi => by simpa using o2 i hi)
  unfold tW wC
  rw [key, t5]
  have hL : lx_W.length = 21 := rfl
  rcases lx_k_at c p (tE c n p - p) lx_W 101 with ⟨q1, q2⟩ | ⟨j, q1, q2, q3⟩
  · rw [q1]
    constructor
    · rintro ⟨a, b⟩
      exact absurd ⟨a, fun i hi => by have := b i (by omega); simpa using this⟩ (q2 (k - 101) (by omega))
    · intro z; omega
  · rw [q2]
    constructor
    · rintro ⟨a, b⟩
      have e : lx_W.getD j [] = lx_W.getD (k - 101) [] := by
        apply List.ext_getElem (by omega)
        intro i h1 h2
        have x1 := q3.2 i h1
        have x2 : (lx_W.getD j []).getD i 0 = (lx_W.getD (k - 101) []).getD i 0 := by
          rw [← x1]
          have := b i (by omega)
          simpa using this
        rw [List.getD_eq_getElem?_getD (l := lx_W.getD j []) (i := i), List.getD_eq_getElem?_getD (l := lx_W.getD (k - 101) []) (i := i), List.getElem?_eq_getElem h1, List.getElem?_eq_getElem h2] at x2
        exact x2
      have := lx_W_ne j (by omega) (k - 101) (by omega) e
      omega
    · intro z
      have : j = k - 101 := by omega
      subst this
      exact ⟨q3.1, fun i hi => by have := q3.2 i (by omega); simpa using this⟩
theorem lgc {x y : Int64} : lg_cmp x y = 0 ↔ x = y := by
  unfold lg_cmp
  by_cases h : x > y
  · rw [if_pos h]
    constructor
    · intro z; exact absurd z (by decide)
    · intro z; subst z; exact absurd h (by simp)
  · rw [if_neg h]
    by_cases e : x = y
    · rw [if_pos e]; exact ⟨fun _ => e, fun _ => rfl⟩
    · rw [if_neg e]; exact ⟨fun z => absurd z (by decide), fun z => absurd z e⟩
def CX (c : Nat → Nat) (n i : Nat) (v : Nat → Int32) : Prop := v 2 = nI (tk_k c n i) ∧ v 3 = nI (tk_p c n i) ∧ v 4 = nI (tk_b c n (i + 1)) ∧ (tk_k c n i = 2 → v 5 = tk_n c n i)
def CY (c : Nat → Nat) (n i : Nat) (v : Nat → Int32) (w : Int64) : Prop := v 6 = nI (tk_p c n i) ∧ v 5 = nI (tS (tk_k c n i)) ∧ (tk_k c n i ≠ 1 → v 3 = nI (tk_b c n (i + 1))) ∧ (tk_k c n i = 2 → v 7 = tk_n c n i) ∧ (tS (tk_k c n i) = 1 → w = tk_w c n i)
theorem tE_le {c : Nat → Nat} {n p : Nat} (h : p ≤ n) : tE c n p ≤ n ∧ p ≤ tE c n p := by
  unfold tE
  by_cases e1 : n ≤ p
  · rw [if_pos e1]; omega
  · rw [if_neg e1]
    by_cases hl : lx_l (c p) = true
    · rw [if_pos hl]; exact ⟨lx_cle lx_l c h, lx_cge lx_l c n p⟩
    · rw [if_neg hl]
      by_cases hd : lx_d (c p) = true
      · rw [if_pos hd]; exact ⟨lx_cle lx_d c h, lx_cge lx_d c n p⟩
      · rw [if_neg hd]; omega
theorem tk_b_le (c : Nat → Nat) (n : Nat) : ∀ i, tk_b c n i ≤ n ∧ tk_p c n i ≤ n := by
  intro i
  induction i with
  | zero => exact ⟨Nat.zero_le _, lx_cle lx_b c (Nat.zero_le _)⟩
  | succ i ih =>
    have h : tk_b c n (i + 1) ≤ n := (tE_le ih.2).1
    exact ⟨h, lx_cle lx_b c h⟩
theorem advX {c : Nat → Nat} {n i : Nat} {v : Nat → Int32} {f : Nat → Nat → Int32} (T : TX c n v f) (h : v 4 = nI (tk_b c n (i + 1))) : ∃ v', gsX_X9_advance_1 NF v f = (v', f) ∧ CX c n (i + 1) v' ∧ ∀ k, k ≠ 2 → k ≠ 3 → k ≠ 4 → k ≠ 5 → v' k = v k := by
  obtain ⟨v', e, a, b⟩ := xAdv (NF := NF) T h (tk_b_le c n (i + 1)).1
  exact ⟨v', e, b, a⟩
theorem tokY {c : Nat → Nat} {n i : Nat} {v : Nat → Int32} {f : Nat → Nat → Int32} {w : Int64} {g : Nat → Int64} (T : TY c n v f) (h : v 3 = nI (tk_b c n (i + 1))) : ∃ (v' : Nat → Int32) (w' : Int64), gsY_X11_token_1 NF v f w g = (v', f, w', g) ∧ CY c n (i + 1) v' w' ∧ ∀ k, k ≠ 3 → k ≠ 5 → k ≠ 6 → k ≠ 7 → v' k = v k := by
  obtain ⟨v', w', e, a, b⟩ := yTok (NF := NF) (w := w) (g := g) T h (tk_b_le c n (i + 1)).1
  exact ⟨v', w', e, b, a⟩
theorem tK_lt {c : Nat → Nat} {n p : Nat} (hc : ∀ k, k < n → c k < 256) : tK c n p < 256 := by
  unfold tK
  by_cases e1 : n ≤ p
  · rw [if_pos e1]; decide
  · rw [if_neg e1]
    by_cases hl : lx_l (c p) = true
    · rw [if_pos hl]
      by_cases h8 : 8 < tE c n p - p
      · rw [if_pos h8]; decide
      · rw [if_neg h8]
        rcases lx_k_W c p (tE c n p - p) with q | q <;> omega
    · rw [if_neg hl]
      by_cases hd : lx_d (c p) = true
      · rw [if_pos hd]
        by_cases h4 : 4 < tE c n p - p ∨ (tE c n p < n ∧ lx_l (c (tE c n p)) = true)
        · rw [if_pos h4]; decide
        · rw [if_neg h4]; decide
      · rw [if_neg hd]
        by_cases hs : lx_s (c p) = true
        · rw [if_pos hs]; exact hc p (by omega)
        · rw [if_neg hs]; decide
theorem tk_lt {c : Nat → Nat} {n : Nat} (hc : ∀ k, k < n → c k < 256) (i : Nat) : tk_k c n i < 256 := tK_lt hc
theorem tS_lt {k : Nat} (h : k < 256) : tS k < 2 ^ 31 := by
  unfold tS
  by_cases e1 : k = 1
  · rw [if_pos e1]; decide
  · rw [if_neg e1]
    by_cases e2 : k = 3 ∨ 101 ≤ k
    · rw [if_pos e2]; decide
    · rw [if_neg e2]; omega
theorem tok_le {c : Nat → Nat} {n p : Nat} (hc : ∀ k, k < n → c k < 256) (h : tS (tK c n p) = 1) : tK c n p ≤ 121 := by
  obtain ⟨t1, t2, t3, t4, t5⟩ := tok_word hc h
  rw [t5]
  rcases lx_k_W c p (tE c n p - p) with q | q <;> omega
theorem yIsW {c : Nat → Nat} {n i k : Nat} {v : Nat → Int32} {f : Nat → Nat → Int32} {w : Int64} {g : Nat → Int64} (hc : ∀ k, k < n → c k < 256) (C : CY c n i v w) (hk1 : 101 ≤ k) (hk2 : k ≤ 121) {j : Int64} (hj : j = wC k) : gsY_X11_isWord_1 NF j v f w g = if tk_k c n i = k then 1 else 0 := by
  subst hj
  obtain ⟨c1, c2, c3, c4, c5⟩ := C
  simp only [gsY_X11_isWord_1]
  rw [c2]
  by_cases h : tS (tk_k c n i) = 1
  · rw [if_pos (by rw [h]; rfl), c5 h]
    have hW : tk_w c n i = wC k ↔ tk_k c n i = k := tok_W hc h hk1 hk2
    by_cases e : tk_k c n i = k
    · rw [if_pos (lgc.mpr (hW.mpr e)), if_pos e]
    · rw [if_neg (fun z => e (hW.mp (lgc.mp z))), if_neg e]
  · have e : tk_k c n i ≠ k := by
      intro e
      apply h
      rw [e]
      unfold tS
      rw [if_neg (by omega), if_pos (by omega)]
    have hb : tS (tk_k c n i) < 2 ^ 31 := tS_lt (tk_lt hc i)
    rw [if_neg (nlit 1 1 rfl hb (by decide) h), if_neg e]
end
end
section
section
variable {NF : Nat}
def fTg (k : Nat) : Nat := if k = 113 then 1 else if k = 114 then 2 else if k = 115 then 3 else if k = 60 ∨ k = 62 ∨ k = 61 then 4 else if k = 43 ∨ k = 45 then 5 else 6
def fSg (k : Nat) : Bool := [113, 114, 60, 62, 61, 43, 45, 42, 47, 37].contains k
def fOp (k : Nat) : Bool := k == 2 || (decide (116 ≤ k) && decide (k ≤ 121))
def fDp : List Nat → Nat
  | [] => 0
  | a :: l => (if a = 115 ∨ a = 40 then 1 else 0) + fDp l
def fNb : List Nat → Nat
  | [] => 0
  | a :: l => (if a = 40 then 0 else 1) + fNb l
def fMay : List Nat → Bool
  | [] => true
  | a :: _ => a == 40 || decide (fTg a < 4)
def fHasR : List Nat → Bool
  | [] => false
  | a :: l => if a = 40 then false else if 4 < fTg a then fHasR l else decide (fTg a = 4)
def fHasB (l : List Nat) : Bool := l.contains 40
def fCls (t : Nat) : List (Nat × Int32) → List Nat → List (Nat × Int32) × List Nat
  | out, [] => (out, [])
  | out, a :: l => if a = 40 ∨ fTg a < t then (out, a :: l) else fCls t (out ++ [(a, 0)]) l
def fFl (k : Nat) : Nat := if k = 1 then 1 else 2
def sy (K : Nat → Nat) (N : Nat → Int32) : Nat → Bool → Nat → List (Nat × Int32) → List Nat → Nat → Option (Nat × Nat × List (Nat × Int32) × Nat)
  | 0, _, _, _, _, _ => none
  | m + 1, true, i, out, st, own =>
    if K i = 115 ∧ fMay st = true then (if 6 < fDp st then some (fFl (K i), i, [], 0) else sy K N m true (i + 1) out (115 :: st) own)
    else if K i = 40 then (if own = 30 ∨ 6 < fDp st then some (fFl (K i), i, [], 0) else sy K N m true (i + 1) out (40 :: st) (own + 1))
    else if fOp (K i) = true ∧ own ≠ 30 then sy K N m false (i + 1) (out ++ [(K i, if K i = 2 then N i else 0)]) st (own + 1)
    else some (fFl (K i), i, [], 0)
  | m + 1, false, i, out, st, own =>
    if K i = 41 ∧ fHasB st = true then sy K N m false (i + 1) (fCls 0 out st).1 (fCls 0 out st).2.tail own
    else if fSg (K i) = true ∧ ¬ (fTg (K i) = 4 ∧ fHasR st = true) then sy K N m true (i + 1) (fCls (fTg (K i)) out st).1 (K i :: (fCls (fTg (K i)) out st).2) own
    else if fHasB st = true then some (fFl (K i), i, [], 0)
    else some (0, i, (fCls 0 out st).1, own)
def fMp (P : List Nat) : List (Nat × Int32) := P.map (fun a => (a, 0))
theorem fMp_len (P : List Nat) : (fMp P).length = P.length := List.length_map ..
theorem fMp_app (P Q : List Nat) : fMp (P ++ Q) = fMp P ++ fMp Q := List.map_append ..
def fLow (t : Nat) (st : List Nat) : Prop := st = [] ∨ ∃ a l, st = a :: l ∧ (a = 40 ∨ fTg a < t)
theorem fLow.mono {t u : Nat} {st : List Nat} (h : fLow t st) (hu : t ≤ u) : fLow u st := by
  rcases h with h | ⟨a, l, e, h⟩
  · exact Or.inl h
  · exact Or.inr ⟨a, l, e, h.imp (fun z => z) (fun z => by omega)⟩
theorem fCls_stop {t : Nat} {out : List (Nat × Int32)} {st : List Nat} (h : fLow t st) : fCls t out st = (out, st) := by
  rcases h with rfl | ⟨a, l, rfl, h⟩
  · rfl
  · show (if a = 40 ∨ fTg a < t then (out, a :: l) else fCls t (out ++ [(a, 0)]) l) = _
    rw [if_pos h]
theorem fCls_app {t : Nat} {st : List Nat} (h : fLow t st) : ∀ (P : List Nat) (out : List (Nat × Int32)), (∀ a ∈ P, a ≠ 40 ∧ t ≤ fTg a) → fCls t out (P ++ st) = (out ++ fMp P, st) := by
  intro P
  induction P with
  | nil => intro out _; rw [List.nil_append, fCls_stop h]; simp [fMp]
  | cons a P ih =>
    intro out hP
    have ha := hP a (by simp)
    show (if a = 40 ∨ fTg a < t then (out, a :: (P ++ st)) else fCls t (out ++ [(a, 0)]) (P ++ st)) = _
    rw [if_neg (fun z => z.elim ha.1 (fun q => by omega)), ih _ (fun b hb => hP b (by simp [hb]))]
    simp [fMp]
theorem fHasR_app {st : List Nat} : ∀ (P : List Nat), (∀ a ∈ P, a ≠ 40 ∧ 4 < fTg a) → fHasR (P ++ st) = fHasR st := by
  intro P
  induction P with
  | nil => intro _; rfl
  | cons a P ih =>
    intro hP
    have ha := hP a (by simp)
    show (if a = 40 then false else if 4 < fTg a then fHasR (P ++ st) else decide (fTg a = 4)) = _
    rw [if_neg ha.1, if_pos ha.2, ih (fun b hb => hP b (by simp [hb]))]
theorem fHasR_low {st : List Nat} (h : fLow 4 st) : fHasR st = false := by
  rcases h with rfl | ⟨a, l, rfl, h⟩
  · rfl
  · show (if a = 40 then false else if 4 < fTg a then fHasR l else decide (fTg a = 4)) = false
    by_cases e : a = 40
    · rw [if_pos e]
    · have h := h.resolve_left e
      rw [if_neg e, if_neg (by omega), decide_eq_false (by omega)]
theorem fNb_app : ∀ (P : List Nat) (st : List Nat), (∀ a ∈ P, a ≠ 40) → fNb (P ++ st) = P.length + fNb st := by
  intro P
  induction P with
  | nil => intro st _; simp
  | cons a P ih =>
    intro st hP
    have ha := hP a (by simp)
    show (if a = 40 then 0 else 1) + fNb (P ++ st) = _
    rw [if_neg ha, ih st (fun b hb => hP b (by simp [hb])), List.length_cons]
    omega
theorem fNb_P {P : List Nat} (h : ∀ a ∈ P, a ≠ 40) : fNb P = P.length := by
  have := fNb_app P [] h
  rw [List.append_nil] at this
  exact this
theorem fHasB_app (P st : List Nat) : fHasB (P ++ 40 :: st) = true := by simp [fHasB]
def OUTX (out : List (Nat × Int32)) (f : Nat → Nat → Int32) : Prop := ∀ j, j < out.length → f 3 j = nI (out.getD j (0, 0)).1 ∧ ((out.getD j (0, 0)).1 = 2 → f 4 j = (out.getD j (0, 0)).2)
def XS (c : Nat → Nat) (n : Nat) (v0 : Nat → Int32) (f0 : Nat → Nat → Int32) (v : Nat → Int32) (f : Nat → Nat → Int32) (i : Nat) (out : List (Nat × Int32)) (own : Nat) : Prop := CX c n i v ∧ (∀ k, k ≠ 2 → k ≠ 3 → k ≠ 4 → k ≠ 5 → k ≠ 16 → k ≠ 17 → v k = v0 k) ∧ (∀ q, q ≠ 3 → q ≠ 4 → f q = f0 q) ∧ v 16 = nI out.length ∧ v 17 = nI own ∧ OUTX out f
def XF (c : Nat → Nat) (n : Nat) (v0 : Nat → Int32) (f0 : Nat → Nat → Int32) (v : Nat → Int32) (f : Nat → Nat → Int32) (s j : Nat) : Prop := v 7 = nI s ∧ v 8 = nI (tk_p c n j) ∧ (∀ k, k ≠ 2 → k ≠ 3 → k ≠ 4 → k ≠ 5 → k ≠ 7 → k ≠ 8 → k ≠ 16 → k ≠ 17 → v k = v0 k) ∧ (∀ q, q ≠ 3 → q ≠ 4 → f q = f0 q)
theorem XS.t {c : Nat → Nat} {n : Nat} {v0 v : Nat → Int32} {f0 f : Nat → Nat → Int32} {i own : Nat} {out : List (Nat × Int32)} (T : TX c n v0 f0) (h : XS c n v0 f0 v f i out own) : TX c n v f := T.of (h.2.1 1 (by decide) (by decide) (by decide) (by decide) (by decide) (by decide)) (h.2.2.1 0 (by decide) (by decide))
theorem XS.adv {c : Nat → Nat} {n : Nat} {v0 v : Nat → Int32} {f0 f : Nat → Nat → Int32} {i own : Nat} {out : List (Nat × Int32)} (T : TX c n v0 f0) (h : XS c n v0 f0 v f i out own) : ∃ v', gsX_X9_advance_1 NF v f = (v', f) ∧ XS c n v0 f0 v' f (i + 1) out own := by
  obtain ⟨v', e, a, b⟩ := advX (NF := NF) (i := i) (XS.t T h) h.1.2.2.1
  obtain ⟨h1, h2, h3, h4, h5, h6⟩ := h
  exact ⟨v', e, a, fun k k2 k3 k4 k5 k16 k17 => (b k k2 k3 k4 k5).trans (h2 k k2 k3 k4 k5 k16 k17), h3, (b 16 (by decide) (by decide) (by decide) (by decide)).trans h4, (b 17 (by decide) (by decide) (by decide) (by decide)).trans h5, h6⟩
theorem XS.ref {c : Nat → Nat} {n : Nat} {v0 v : Nat → Int32} {f0 f : Nat → Nat → Int32} {i own : Nat} {out : List (Nat × Int32)} (hc : ∀ k, k < n → c k < 256) (h : XS c n v0 f0 v f i out own) : ∃ v', gsX_X6_refuse_1 NF v f = (0, v', f) ∧ XF c n v0 f0 v' f (fFl (tk_k c n i)) i := by
  obtain ⟨⟨c1, c2, _, _⟩, h2, h3, h4, h5, h6⟩ := h
  have hk := tk_lt hc i
  refine ⟨upd (upd v 7 (nI (fFl (tk_k c n i)))) 8 (nI (tk_p c n i)), ?_, (pk_un (by decide)).trans pk_us, pk_us, fun k k2 k3 k4 k5 k7 k8 k16 k17 => (pk_un k8).trans ((pk_un k7).trans (h2 k k2 k3 k4 k5 k16 k17)), h3⟩
  simp only [gsX_X6_refuse_1, gsX_X6_refuseAs_1, c1, c2, ite01]
  unfold fFl
  by_cases e : tk_k c n i = 1
  · rw [if_pos (by rw [e]; rfl), if_pos e]; rfl
  · rw [if_neg (nlit 1 1 rfl (by omega) (by decide) e), if_neg e]; rfl
theorem getD_snoc {out : List (Nat × Int32)} {x : Nat × Int32} {j : Nat} : (out ++ [x]).getD j (0, 0) = if j < out.length then out.getD j (0, 0) else if j = out.length then x else (0, 0) := by
  by_cases h : j < out.length
  · rw [if_pos h]; simp [List.getD_eq_getElem?_getD, List.getElem?_append_left h]
  · rw [if_neg h]
    by_cases e : j = out.length
    · rw [if_pos e, e]; simp [List.getD_eq_getElem?_getD]
    · rw [if_neg e]
      simp only [List.getD_eq_getElem?_getD]
      rw [List.getElem?_eq_none (by simp; omega)]
      rfl
theorem XS.add {c : Nat → Nat} {n : Nat} {v0 v : Nat → Int32} {f0 f : Nat → Nat → Int32} {i own : Nat} {out : List (Nat × Int32)} {k : Nat} {x y : Int32} (h : XS c n v0 f0 v f i out own) (hl : out.length < 300) (hxy : k = 2 → x = y) : ∃ v' f', gsX_X4_add_1 NF (nI k) x v f = (v', f') ∧ XS c n v0 f0 v' f' i (out ++ [(k, y)]) own ∧ v' 17 = v 17 := by
  obtain ⟨⟨c1, c2, c3, c4⟩, h2, h3, h4, h5, h6⟩ := h
  refine ⟨upd v 16 (nI (out.length + 1)), upd2 (upd2 f 3 (upd (f 3) out.length (nI k))) 4 (upd (f 4) out.length x), ?_, ⟨⟨(pk_un (by decide)).trans c1, (pk_un (by decide)).trans c2, (pk_un (by decide)).trans c3, fun z => (pk_un (by decide)).trans (c4 z)⟩, fun k k2 k3 k4 k5 k16 k17 => (pk_un k16).trans (h2 k k2 k3 k4 k5 k16 k17), fun q q3 q4 => ?_, by rw [pk_us]; simp, (pk_un (by decide)).trans h5, fun j hj => ?_⟩, pk_un (by decide)⟩
  · simp only [gsX_X4_add_1, h4]
    rw [if_neg (show ¬ (300 : Int32) ≤ nI out.length from nI_ge (b := 300) hl (by omega)), nI_clamp (by omega), nI_1]
    rfl
  · show (if q = 4 then _ else if q = 3 then _ else f q) = f0 q
    rw [if_neg q4, if_neg q3]; exact h3 q q3 q4
  · rw [getD_snoc]
    show upd (f 3) out.length (nI k) j = _ ∧ (_ → upd (f 4) out.length x j = _)
    by_cases e : j < out.length
    · rw [if_pos e, pk_un (by omega), pk_un (by omega)]; exact h6 j e
    · have e2 : j = out.length := by simp at hj; omega
      rw [if_neg e, if_pos e2, e2, pk_us, pk_us]
      exact ⟨rfl, hxy⟩
end
end
section
section
variable {NF : Nat}
section
variable {K : Nat → Nat} {N : Nat → Int32} {m i own : Nat} {out : List (Nat × Int32)} {st : List Nat}
theorem sy_not (h : K i = 115) (hm : fMay st = true) (hd : fDp st ≤ 6) : sy K N (m + 1) true i out st own = sy K N m true (i + 1) out (115 :: st) own := by
  rw [sy, if_pos ⟨h, hm⟩, if_neg (by omega)]
theorem sy_notF (h : K i = 115) (hm : fMay st = true) (hd : 6 < fDp st) : sy K N (m + 1) true i out st own = some (fFl (K i), i, [], 0) := by
  rw [sy, if_pos ⟨h, hm⟩, if_pos hd]
theorem sy_br (h : K i = 40) (ho : own ≠ 30) (hd : fDp st ≤ 6) : sy K N (m + 1) true i out st own = sy K N m true (i + 1) out (40 :: st) (own + 1) := by
  rw [sy, if_neg (fun z => by omega), if_pos h, if_neg (fun z => z.elim ho (fun q => by omega))]
theorem sy_brF (h : K i = 40) (hd : own = 30 ∨ 6 < fDp st) : sy K N (m + 1) true i out st own = some (fFl (K i), i, [], 0) := by
  rw [sy, if_neg (fun z => by omega), if_pos h, if_pos hd]
theorem sy_op (h : fOp (K i) = true) (ho : own ≠ 30) : sy K N (m + 1) true i out st own = sy K N m false (i + 1) (out ++ [(K i, if K i = 2 then N i else 0)]) st (own + 1) := by
  have h1 : K i ≠ 115 ∧ K i ≠ 40 := by
    simp only [fOp, Bool.or_eq_true, Bool.and_eq_true, beq_iff_eq, decide_eq_true_eq] at h
    omega
  rw [sy, if_neg (fun z => h1.1 z.1), if_neg h1.2, if_pos ⟨h, ho⟩]
theorem sy_opF (h1 : K i = 115 → fMay st = false) (h2 : K i ≠ 40) (h : ¬ (fOp (K i) = true ∧ own ≠ 30)) : sy K N (m + 1) true i out st own = some (fFl (K i), i, [], 0) := by
  rw [sy, if_neg (fun z => by rw [h1 z.1] at z; exact absurd z.2 (by decide)), if_neg h2, if_neg h]
theorem sy_cl (h : K i = 41) (hb : fHasB st = true) : sy K N (m + 1) false i out st own = sy K N m false (i + 1) (fCls 0 out st).1 (fCls 0 out st).2.tail own := by
  rw [sy, if_pos ⟨h, hb⟩]
theorem sy_sg (h41 : K i ≠ 41) (hs : fSg (K i) = true) (h4 : ¬ (fTg (K i) = 4 ∧ fHasR st = true)) : sy K N (m + 1) false i out st own = sy K N m true (i + 1) (fCls (fTg (K i)) out st).1 (K i :: (fCls (fTg (K i)) out st).2) own := by
  rw [sy, if_neg (fun z => h41 z.1), if_pos ⟨hs, h4⟩]
theorem sy_stB (h41 : K i ≠ 41) (hs : ¬ (fSg (K i) = true ∧ ¬ (fTg (K i) = 4 ∧ fHasR st = true))) (hb : fHasB st = true) : sy K N (m + 1) false i out st own = some (fFl (K i), i, [], 0) := by
  rw [sy, if_neg (fun z => h41 z.1), if_neg hs, if_pos hb]
theorem sy_stN (hs : ¬ (fSg (K i) = true ∧ ¬ (fTg (K i) = 4 ∧ fHasR st = true))) (hb : fHasB st = false) : sy K N (m + 1) false i out st own = some (0, i, (fCls 0 out st).1, own) := by
  rw [sy, if_neg (fun z => by rw [hb] at z; exact absurd z.2 (by decide)), if_neg hs, if_neg (by rw [hb]; decide)]
end
def cT (L : Nat) : Nat := if L = 0 then 1 else if L = 1 then 2 else if L = 2 then 4 else if L = 3 then 5 else if L = 4 then 6 else 7
def tT (L : Nat) : Nat := if L = 0 then 1 else if L = 1 then 2 else if L = 2 then 3 else if L = 3 then 5 else if L = 4 then 6 else 7
def jB (L k : Nat) : Bool := if L = 0 then k == 113 else if L = 1 then k == 114 else if L = 2 then (k == 60 || k == 62 || k == 61) else if L = 3 then (k == 43 || k == 45) else (k == 42 || k == 47 || k == 37)
def nJ (L k : Nat) : Bool := !((decide (L ≤ 4) && jB 4 k) || (decide (L ≤ 3) && jB 3 k) || (decide (L ≤ 1) && jB 1 k) || (decide (L ≤ 0) && jB 0 k))
theorem jB_b : ∀ L, L < 5 → ∀ k, k < 256 → jB L k = true → (fSg k && k != 41 && k != 40 && k != 115 && k != 2 && fTg k == cT L && decide (tT L ≤ fTg k) && decide (fTg k < cT (L + 1)) && (L == 2 || fTg k != 4) && (decide (L < 2) || decide (4 ≤ fTg k))) = true := by decide +kernel
theorem jB_f (L : Nat) (hL : L < 5) (k : Nat) (hk : k < 256) (h : jB L k = true) : fSg k = true ∧ k ≠ 41 ∧ k ≠ 40 ∧ k ≠ 115 ∧ k ≠ 2 ∧ fTg k = cT L ∧ tT L ≤ fTg k ∧ fTg k < cT (L + 1) ∧ (L ≠ 2 → fTg k ≠ 4) ∧ (2 ≤ L → 4 ≤ fTg k) := by
  have q := jB_b L hL k hk h
  simp only [Bool.and_eq_true, Bool.or_eq_true, bne_iff_ne, beq_iff_eq, decide_eq_true_eq] at q
  obtain ⟨⟨⟨⟨⟨⟨⟨⟨⟨q1, q2⟩, q3⟩, q4⟩, q5⟩, q6⟩, q7⟩, q8⟩, q9⟩, q10⟩ := q
  exact ⟨q1, q2, q3, q4, q5, q6, q7, q8, fun z => q9.resolve_left z, fun z => q10.resolve_left (by omega)⟩
theorem nJ_s : ∀ L, L < 5 → ∀ k, k < 256 → jB L k = false → nJ (L + 1) k = true → nJ L k = true := by decide +kernel
theorem nJ_0 : ∀ k, k < 256 → nJ 0 k = true → fSg k = true → jB 2 k = true ∧ fTg k = 4 := by decide +kernel
theorem nJ_5 : ∀ k, k < 256 → nJ 5 k = true := by decide +kernel
theorem nJ_2 : ∀ L, L < 5 → ∀ k, k < 256 → nJ L k = true → nJ (L + 1) k = true := by decide +kernel
theorem nJ_23 {k : Nat} (h : nJ 3 k = true) : nJ 2 k = true := h
theorem tT_s : ∀ L, L < 5 → tT L ≤ tT (L + 1) ∧ cT L ≤ cT (L + 1) := by decide
theorem tg115 : fTg 115 = 3 := rfl
theorem jn0 : ∀ L, L < 5 → ∀ k, k < 256 → gsX_X6_joins_1 0 (nI L) (nI k) zV zVV = if jB L k = true then 1 else 0 := by decide +kernel
theorem jn {L k : Nat} {v : Nat → Int32} {f : Nat → Nat → Int32} (hL : L < 5) (hk : k < 256) : gsX_X6_joins_1 NF (nI L) (nI k) v f = if jB L k = true then 1 else 0 := (show gsX_X6_joins_1 NF (nI L) (nI k) v f = gsX_X6_joins_1 0 (nI L) (nI k) zV zVV from rfl).trans (jn0 L hL k hk)
abbrev XG : Type := (Nat → Int32) → (Nat → Nat → Int32) → Int32 × (Nat → Int32) × (Nat → Nat → Int32)
def YES (c : Nat → Nat) (n : Nat) (v0 : Nat → Int32) (f0 : Nat → Nat → Int32) (L : Nat) (r : Int32 × (Nat → Int32) × (Nat → Nat → Int32)) (i : Nat) (out : List (Nat × Int32)) (st : List Nat) (own : Nat) : Prop :=
  ∃ (v' : Nat → Int32) (f' : Nat → Nat → Int32) (i' : Nat) (out1 : List (Nat × Int32)) (P : List Nat) (own' : Nat), r = (1, v', f') ∧ XS c n v0 f0 v' f' i' (out1 ++ fMp P) own' ∧ (∃ k, ∀ m, sy (tk_k c n) (tk_n c n) (m + k) true i out st own = sy (tk_k c n) (tk_n c n) m false i' out1 (P ++ st) own') ∧ (∀ a ∈ P, a ≠ 40 ∧ tT L ≤ fTg a) ∧ nJ L (tk_k c n i') = true ∧ (L ≤ 2 → jB 2 (tk_k c n i') = true → fHasR (P ++ st) = true) ∧ own < own' ∧ own' ≤ 30 ∧ out1.length + fNb (P ++ st) + 1 ≤ 9 * own'
def NOPE (c : Nat → Nat) (n : Nat) (v0 : Nat → Int32) (f0 : Nat → Nat → Int32) (r : Int32 × (Nat → Int32) × (Nat → Nat → Int32)) (i : Nat) (out : List (Nat × Int32)) (st : List Nat) (own : Nat) : Prop :=
  ∃ (v' : Nat → Int32) (f' : Nat → Nat → Int32) (s j : Nat), r = (0, v', f') ∧ XF c n v0 f0 v' f' s j ∧ 0 < s ∧ s ≤ 2 ∧ ∃ k, ∀ m, sy (tk_k c n) (tk_n c n) (m + k) true i out st own = some (s, j, [], 0)
def SIM (c : Nat → Nat) (n : Nat) (v0 : Nat → Int32) (f0 : Nat → Nat → Int32) (w L : Nat) (g : XG) : Prop :=
  ∀ (v : Nat → Int32) (f : Nat → Nat → Int32) (i : Nat) (out : List (Nat × Int32)) (st : List Nat) (own : Nat), XS c n v0 f0 v f i out own → fDp st = w → fLow (cT L) st → (3 ≤ L → tk_k c n i = 115 → fMay st = false) → own ≤ 30 → out.length + fNb st ≤ 9 * own + fDp st → YES c n v0 f0 L (g v f) i out st own ∨ NOPE c n v0 f0 (g v f) i out st own
theorem fFl_r (k : Nat) : 0 < fFl k ∧ fFl k ≤ 2 := by
  unfold fFl
  by_cases h : k = 1
  · rw [if_pos h]; decide
  · rw [if_neg h]; decide
def xmB (q : Int32 × (Nat → Int32) × (Nat → Nat → Int32)) : Int32 × (Nat → Int32) × (Nat → Nat → Int32) :=
  match q with
  | (r, v, f) => if r = 1 then (1, v, f) else (0, v, f)
def xmCh (NF : Nat) (gs : XG) (L most : Int32) : Nat → Int32 → (Nat → Int32) → (Nat → Nat → Int32) → Int32 × (Nat → Int32) × (Nat → Nat → Int32)
  | 0, _, _, _ => (0, (fun _ => 0), (fun _ _ => 0))
  | m + 1, l, v, f =>
    if most ≤ l then (1, v, f)
    else if gsX_X6_joins_1 NF L (v 2) v f = 1 then
      match gsX_X9_advance_1 NF v f with
      | (v1, f1) =>
        match gs v1 f1 with
        | (r, v2, f2) =>
          if r = 1 then
            match gsX_X4_add_1 NF (v 2) 0 v2 f2 with
            | (v3, f3) => xmCh NF gs L most m (l + 1) v3 f3
          else (0, v2, f2)
    else (1, v, f)
def xmLv (NF : Nat) (gs : XG) (L most : Int32) : XG := fun v f =>
  match gs v f with
  | (r, v1, f1) => if r = 1 then xmCh NF gs L most (4294967296 + NF) 0 v1 f1 else (0, v1, f1)
def xmNeg (NF : Nat) (gs : XG) : XG := fun v f =>
  match gsX_X9_advance_1 NF v f with
  | (v2, f3) =>
    match gs v2 f3 with
    | (r4, v6, f7) =>
      if r4 = 1 then
        match gsX_X4_add_1 NF 115 0 v6 f7 with
        | (v10, f11) => (1, v10, f11)
      else (0, v6, f7)
def xmOne (NF : Nat) (gn gs : XG) : XG := fun v f => if v 2 = 115 then xmB (gn v f) else xmLv NF gs 2 1 v f
def xmOper (NF : Nat) : XG := fun v f =>
  if (v 17) < 30 then
    match gsX_X4_add_1 NF (v 2) (v 5) v f with
    | (v4, f5) =>
      match gsX_X9_advance_1 NF (upd v4 17 (v4 17 + 1)) f5 with
      | (v8, f9) => (1, v8, f9)
  else xmB (gsX_X6_refuse_1 NF v f)
def xmBra (NF : Nat) (gs : XG) : XG := fun v f =>
  if (v 2) = 40 then
    if (v 17) < 30 then
      match gsX_X9_advance_1 NF (upd v 17 (v 17 + 1)) f with
      | (v26, f27) =>
        match gs v26 f27 with
        | (r28, v30, f31) => if r28 = 1 then xmB (gsX_X6_taken_1 NF 41 v30 f31) else (0, v30, f31)
    else xmB (gsX_X6_refuse_1 NF v f)
  else xmB (gsX_X6_refuse_1 NF v f)
def xmUn (NF : Nat) (gb : XG) : XG := fun v f => if (v 2) = 2 then xmOper NF v f else if (v 2) < 116 then gb v f else if 121 < (v 2) then gb v f else xmOper NF v f
def xmBr7 (NF : Nat) : XG := fun v f => if (v 2) = 40 then (if (v 17) < 30 then xmB (gsX_X6_refuse_1 NF v f) else xmB (gsX_X6_refuse_1 NF v f)) else xmB (gsX_X6_refuse_1 NF v f)
theorem xmB1 (v : Nat → Int32) (f : Nat → Nat → Int32) : xmB (1, v, f) = (1, v, f) := by
  show (if (1 : Int32) = 1 then ((1 : Int32), v, f) else ((0 : Int32), v, f)) = (1, v, f)
  exact if_pos rfl
theorem xmB0 (v : Nat → Int32) (f : Nat → Nat → Int32) : xmB (0, v, f) = (0, v, f) := by
  show (if (0 : Int32) = 1 then ((1 : Int32), v, f) else ((0 : Int32), v, f)) = (0, v, f)
  exact if_neg (by decide)
section
variable {c : Nat → Nat} {n : Nat} {v0 : Nat → Int32} {f0 : Nat → Nat → Int32}
theorem xmB_yes {L : Nat} {r : Int32 × (Nat → Int32) × (Nat → Nat → Int32)} {i own : Nat} {out : List (Nat × Int32)} {st : List Nat} (h : YES c n v0 f0 L r i out st own) : xmB r = r := by
  obtain ⟨v', f', _, _, _, _, e, _⟩ := h
  rw [e]; exact xmB1 _ _
theorem xmB_nope {r : Int32 × (Nat → Int32) × (Nat → Nat → Int32)} {i own : Nat} {out : List (Nat × Int32)} {st : List Nat} (h : NOPE c n v0 f0 r i out st own) : xmB r = r := by
  obtain ⟨v', f', _, _, e, _⟩ := h
  rw [e]; exact xmB0 _ _
theorem xmB_or {L : Nat} {r : Int32 × (Nat → Int32) × (Nat → Nat → Int32)} {i own : Nat} {out : List (Nat × Int32)} {st : List Nat} (h : YES c n v0 f0 L r i out st own ∨ NOPE c n v0 f0 r i out st own) : YES c n v0 f0 L (xmB r) i out st own ∨ NOPE c n v0 f0 (xmB r) i out st own := by
  rcases h with h | h
  · rw [xmB_yes h]; exact Or.inl h
  · rw [xmB_nope h]; exact Or.inr h
theorem SIMb {w L : Nat} {g : XG} (h : SIM c n v0 f0 w L g) : SIM c n v0 f0 w L (fun v f => xmB (g v f)) := fun v f i out st own h1 h2 h3 h4 h5 h6 => xmB_or (h v f i out st own h1 h2 h3 h4 h5 h6)
theorem nopeR (hc : ∀ k, k < n → c k < 256) {v : Nat → Int32} {f : Nat → Nat → Int32} {i own : Nat} {out : List (Nat × Int32)} {st : List Nat} (h : XS c n v0 f0 v f i out own) (hs : ∀ m, sy (tk_k c n) (tk_n c n) (m + 1) true i out st own = some (fFl (tk_k c n i), i, [], 0)) : NOPE c n v0 f0 (xmB (gsX_X6_refuse_1 NF v f)) i out st own := by
  obtain ⟨v', e, x⟩ := XS.ref (NF := NF) hc h
  have hr := fFl_r (tk_k c n i)
  exact ⟨v', f, _, i, by rw [e]; exact xmB0 _ _, x, hr.1, hr.2, 1, hs⟩
theorem simOper (T : TX c n v0 f0) (hc : ∀ k, k < n → c k < 256) {w : Nat} (hw : w ≤ 7) {v : Nat → Int32} {f : Nat → Nat → Int32} {i own : Nat} {out : List (Nat × Int32)} {st : List Nat} (h : XS c n v0 f0 v f i out own) (hd : fDp st = w) (hop : fOp (tk_k c n i) = true) (ho : own ≤ 30) (hb : out.length + fNb st ≤ 9 * own + fDp st) : YES c n v0 f0 5 (xmOper NF v f) i out st own ∨ NOPE c n v0 f0 (xmOper NF v f) i out st own := by
  have hk := tk_lt hc i
  have h17 : v 17 = nI own := h.2.2.2.2.1
  have hop' := hop
  simp only [fOp, Bool.or_eq_true, Bool.and_eq_true, beq_iff_eq, decide_eq_true_eq] at hop'
  unfold xmOper
  rw [h17]
  by_cases hlt : own < 30
  · rw [if_pos (show nI own < (30 : Int32) from nI_lt (b := 30) hlt (by omega)), h.1.1]
    obtain ⟨v4, f5, e4, x4, e17⟩ := XS.add (NF := NF) (k := tk_k c n i) (x := v 5) (y := if tk_k c n i = 2 then tk_n c n i else 0) h (by omega) (fun z => by rw [if_pos z]; exact h.1.2.2.2 z)
    have x5 : XS c n v0 f0 (upd v4 17 (nI (own + 1))) f5 i (out ++ [(tk_k c n i, if tk_k c n i = 2 then tk_n c n i else 0)]) (own + 1) := by
      obtain ⟨⟨c1, c2, c3, c4⟩, h2, h3, h4, h5, h6⟩ := x4
      exact ⟨⟨(pk_un (by decide)).trans c1, (pk_un (by decide)).trans c2, (pk_un (by decide)).trans c3, fun z => (pk_un (by decide)).trans (c4 z)⟩, fun k k2 k3 k4 k5 k16 k17 => (pk_un k17).trans (h2 k k2 k3 k4 k5 k16 k17), h3, (pk_un (by decide)).trans h4, pk_us, h6⟩
    obtain ⟨v8, e8, x8⟩ := XS.adv (NF := NF) T x5
    refine Or.inl ⟨v8, f5, i + 1, _, [], own + 1, ?_, by simpa [fMp] using x8, ⟨1, fun m => ?_⟩, fun a ha => absurd ha (by simp), nJ_5 _ (tk_lt hc _), fun z => by omega, by omega, by omega, ?_⟩
    · simp only [e4, e17, h17, nI_1, e8]
    · rw [sy_op hop (by omega)]; rfl
    · rw [List.nil_append, List.length_append, List.length_singleton]; omega
  · rw [if_neg (show ¬ nI own < (30 : Int32) from nI_nlt (b := 30) (by omega) (by omega))]
    exact Or.inr (nopeR hc h (fun m => sy_opF (fun z => by omega) (by omega) (fun z => z.2 (by omega))))
theorem simUn (T : TX c n v0 f0) (hc : ∀ k, k < n → c k < 256) {w : Nat} (hw : w ≤ 7) {gb : XG} (hg : ∀ v f i out st own, XS c n v0 f0 v f i out own → fDp st = w → (tk_k c n i = 115 → fMay st = false) → own ≤ 30 → out.length + fNb st ≤ 9 * own + fDp st → fOp (tk_k c n i) = false → YES c n v0 f0 5 (gb v f) i out st own ∨ NOPE c n v0 f0 (gb v f) i out st own) : SIM c n v0 f0 w 5 (xmUn NF gb) := by
  intro v f i out st own h hd _ hN ho hb
  have hk := tk_lt hc i
  unfold xmUn
  rw [h.1.1]
  by_cases e2 : tk_k c n i = 2
  · rw [if_pos (by rw [e2]; rfl)]
    exact simOper T hc hw h hd (by rw [e2]; decide) ho hb
  · rw [if_neg (nlit 2 2 rfl (by omega) (by decide) e2)]
    by_cases e3 : tk_k c n i < 116
    · rw [if_pos (show nI (tk_k c n i) < (116 : Int32) from nI_lt (b := 116) e3 (by omega))]
      exact hg v f i out st own h hd (hN (by decide)) ho hb (by simp [fOp]; omega)
    · rw [if_neg (show ¬ nI (tk_k c n i) < (116 : Int32) from nI_nlt (b := 116) (by omega) (by omega))]
      by_cases e4 : 121 < tk_k c n i
      · rw [if_pos (show (121 : Int32) < nI (tk_k c n i) from nI_lt (a := 121) e4 (by omega))]
        exact hg v f i out st own h hd (hN (by decide)) ho hb (by simp [fOp]; omega)
      · rw [if_neg (show ¬ (121 : Int32) < nI (tk_k c n i) from nI_nlt (a := 121) (by omega) (by omega))]
        exact simOper T hc hw h hd (by simp [fOp]; omega) ho hb
theorem simBr7 (hc : ∀ k, k < n → c k < 256) : ∀ v f i out st own, XS c n v0 f0 v f i out own → fDp st = 7 → (tk_k c n i = 115 → fMay st = false) → own ≤ 30 → out.length + fNb st ≤ 9 * own + fDp st → fOp (tk_k c n i) = false → YES c n v0 f0 5 (xmBr7 NF v f) i out st own ∨ NOPE c n v0 f0 (xmBr7 NF v f) i out st own := by
  intro v f i out st own h hd hN ho hb hop
  have e : xmBr7 NF v f = xmB (gsX_X6_refuse_1 NF v f) := by unfold xmBr7; split <;> (try split) <;> rfl
  rw [e]
  by_cases h40 : tk_k c n i = 40
  · exact Or.inr (nopeR hc h (fun m => sy_brF h40 (Or.inr (by omega))))
  · exact Or.inr (nopeR hc h (fun m => sy_opF hN h40 (fun z => by rw [hop] at z; exact absurd z.1 (by decide))))
theorem simBra (T : TX c n v0 f0) (hc : ∀ k, k < n → c k < 256) {w : Nat} (hw : w ≤ 6) {gs : XG} (hs : SIM c n v0 f0 (w + 1) 0 gs) : ∀ v f i out st own, XS c n v0 f0 v f i out own → fDp st = w → (tk_k c n i = 115 → fMay st = false) → own ≤ 30 → out.length + fNb st ≤ 9 * own + fDp st → fOp (tk_k c n i) = false → YES c n v0 f0 5 (xmBra NF gs v f) i out st own ∨ NOPE c n v0 f0 (xmBra NF gs v f) i out st own := by
  intro v f i out st own h hd hN ho hb hop
  have hk := tk_lt hc i
  have h17 : v 17 = nI own := h.2.2.2.2.1
  unfold xmBra
  rw [h.1.1, h17]
  by_cases h40 : tk_k c n i = 40
  · rw [if_pos (by rw [h40]; rfl)]
    by_cases hlt : own < 30
    · rw [if_pos (show nI own < (30 : Int32) from nI_lt (b := 30) hlt (by omega)), nI_1]
      have x1 : XS c n v0 f0 (upd v 17 (nI (own + 1))) f i out (own + 1) := by
        obtain ⟨⟨c1, c2, c3, c4⟩, h2, h3, h4, h5, h6⟩ := h
        exact ⟨⟨(pk_un (by decide)).trans c1, (pk_un (by decide)).trans c2, (pk_un (by decide)).trans c3, fun z => (pk_un (by decide)).trans (c4 z)⟩, fun k k2 k3 k4 k5 k16 k17 => (pk_un k17).trans (h2 k k2 k3 k4 k5 k16 k17), h3, (pk_un (by decide)).trans h4, pk_us, h6⟩
      obtain ⟨v2, e2, x2⟩ := XS.adv (NF := NF) T x1
      simp only [e2]
      have d1 : fDp (40 :: st) = w + 1 := by show (if (40 : Nat) = 115 ∨ (40 : Nat) = 40 then 1 else 0) + fDp st = _; rw [if_pos (Or.inr rfl)]; omega
      have n1 : fNb (40 :: st) = fNb st := by show (if (40 : Nat) = 40 then 0 else 1) + fNb st = _; rw [if_pos rfl]; omega
      rcases hs v2 f (i + 1) out (40 :: st) (own + 1) x2 d1 (Or.inr ⟨40, st, rfl, Or.inl rfl⟩) (fun z => by omega) (by omega) (by omega) with ⟨v3, f3, i3, o3, P, w3, e3, x3, ⟨k3, s3⟩, p3, j3, r3, a3, b3, q3⟩ | ⟨v3, f3, s, j, e3, x3, s0, s2, k3, s3⟩
      · simp only [e3, ite11]
        have hk3 := tk_lt hc i3
        have pP : ∀ a ∈ P, a ≠ 40 := fun a ha => (p3 a ha).1
        have q3' := q3
        rw [fNb_app P (40 :: st) pP, n1] at q3'
        have link : ∀ m, sy (tk_k c n) (tk_n c n) (m + (k3 + 1)) true i out st own = sy (tk_k c n) (tk_n c n) m false i3 o3 (P ++ 40 :: st) w3 := fun m => by
          rw [show m + (k3 + 1) = (m + k3) + 1 by omega, sy_br h40 (by omega) (by omega), s3 m]
        by_cases h41 : tk_k c n i3 = 41
        · obtain ⟨v4, e4, x4⟩ := XS.adv (NF := NF) T x3
          refine Or.inl ⟨v4, f3, i3 + 1, o3 ++ fMp P, [], w3, ?_, by simpa [fMp] using x4, ⟨1 + (k3 + 1), fun m => ?_⟩, fun a ha => absurd ha (by simp), nJ_5 _ (tk_lt hc _), fun z => by omega, by omega, by omega, ?_⟩
          · simp only [gsX_X6_taken_1, x3.1.1, h41]
            rw [if_pos (show nI 41 = (41 : Int32) from rfl)]
            simp only [e4]
            exact xmB1 _ _
          · rw [show m + (1 + (k3 + 1)) = (m + 1) + (k3 + 1) by omega, link (m + 1), sy_cl h41 (fHasB_app P st), fCls_app (t := 0) (st := 40 :: st) (Or.inr ⟨40, st, rfl, Or.inl rfl⟩) P o3 (fun a ha => ⟨pP a ha, Nat.zero_le _⟩)]
            rfl
          · rw [List.nil_append, List.length_append, fMp_len]; omega
        · obtain ⟨v4, e4, x4⟩ := XS.ref (NF := NF) hc x3
          have hr := fFl_r (tk_k c n i3)
          refine Or.inr ⟨v4, f3, _, i3, ?_, x4, hr.1, hr.2, 1 + (k3 + 1), fun m => ?_⟩
          · simp only [gsX_X6_taken_1, x3.1.1]
            rw [if_neg (nlit 41 41 rfl (by omega) (by decide) h41)]
            simp only [e4, ite01]
            exact xmB0 _ _
          · rw [show m + (1 + (k3 + 1)) = (m + 1) + (k3 + 1) by omega, link (m + 1), sy_stB h41 (fun z => z.2 ⟨(nJ_0 _ hk3 j3 z.1).2, r3 (by omega) (nJ_0 _ hk3 j3 z.1).1⟩) (fHasB_app P st)]
      · simp only [e3, ite01]
        refine Or.inr ⟨v3, f3, s, j, rfl, x3, s0, s2, k3 + 1, fun m => ?_⟩
        rw [show m + (k3 + 1) = (m + k3) + 1 by omega, sy_br h40 (by omega) (by omega), s3 m]
    · rw [if_neg (show ¬ nI own < (30 : Int32) from nI_nlt (b := 30) (by omega) (by omega))]
      exact Or.inr (nopeR hc h (fun m => sy_brF h40 (Or.inl (by omega))))
  · rw [if_neg (nlit 40 40 rfl (by omega) (by decide) h40)]
    exact Or.inr (nopeR hc h (fun m => sy_opF hN h40 (fun z => by rw [hop] at z; exact absurd z.1 (by decide))))
theorem simCh (T : TX c n v0 f0) (hc : ∀ k, k < n → c k < 256) {w L : Nat} (hw : w ≤ 7) (hL : L < 5) (hL2 : L ≠ 2) {gs : XG} (hs : SIM c n v0 f0 w (L + 1) gs) {i0 own0 : Nat} {out0 : List (Nat × Int32)} {st : List Nat} (hd : fDp st = w) (hlow : fLow (cT L) st) :
    ∀ (fu l : Nat) (v : Nat → Int32) (f : Nat → Nat → Int32) (i : Nat) (o1 : List (Nat × Int32)) (P : List Nat) (own : Nat), XS c n v0 f0 v f i (o1 ++ fMp P) own → (∃ k, ∀ m, sy (tk_k c n) (tk_n c n) (m + k) true i0 out0 st own0 = sy (tk_k c n) (tk_n c n) m false i o1 (P ++ st) own) → (∀ a ∈ P, a ≠ 40 ∧ tT L ≤ fTg a) → nJ (L + 1) (tk_k c n i) = true → (L ≤ 2 → jB 2 (tk_k c n i) = true → fHasR (P ++ st) = true) → own0 < own → own ≤ 30 → o1.length + fNb (P ++ st) + 1 ≤ 9 * own → l ≤ own → 31 - own < fu →
      YES c n v0 f0 L (xmCh NF gs (nI L) 1600 fu (nI l) v f) i0 out0 st own0 ∨ NOPE c n v0 f0 (xmCh NF gs (nI L) 1600 fu (nI l) v f) i0 out0 st own0 := by
  intro fu
  induction fu with
  | zero => intro l v f i o1 P own _ _ _ _ _ _ _ _ _ h; exact absurd h (Nat.not_lt_zero _)
  | succ fu ih =>
    intro l v f i o1 P own hx hlink hP hj hr hlt ho hb hl hf
    have hk := tk_lt hc i
    have pP : ∀ a ∈ P, a ≠ 40 := fun a ha => (hP a ha).1
    have hb' := hb
    rw [fNb_app P st pP] at hb'
    rw [xmCh, if_neg (show ¬ (1600 : Int32) ≤ nI l from nI_ge (b := 1600) (by omega) (by omega)), hx.1.1, jn hL hk]
    by_cases hjb : jB L (tk_k c n i) = true
    · rw [if_pos hjb, ite11]
      obtain ⟨j1, j2, j3, j4, j5, j6, j7, j8, j9, j10⟩ := jB_f L hL _ hk hjb
      obtain ⟨v1, e1, x1⟩ := XS.adv (NF := NF) T hx
      obtain ⟨k0, link⟩ := hlink
      have d1 : fDp (tk_k c n i :: st) = w := by show (if tk_k c n i = 115 ∨ tk_k c n i = 40 then 1 else 0) + fDp st = _; rw [if_neg (fun z => z.elim j4 j3)]; omega
      have n1 : fNb (tk_k c n i :: st) = 1 + fNb st := by show (if tk_k c n i = 40 then 0 else 1) + fNb st = _; rw [if_neg j3]
      have hTc : tT L = cT L := by
        rcases (show L = 0 ∨ L = 1 ∨ L = 3 ∨ L = 4 by omega) with e | e | e | e
        · rw [e]; rfl
        · rw [e]; rfl
        · rw [e]; rfl
        · rw [e]; rfl
      have go : ∀ m, sy (tk_k c n) (tk_n c n) (m + (1 + k0)) true i0 out0 st own0 = sy (tk_k c n) (tk_n c n) m true (i + 1) (o1 ++ fMp P) (tk_k c n i :: st) own := fun m => by
        rw [show m + (1 + k0) = (m + 1) + k0 by omega, link (m + 1), sy_sg j2 j1 (fun z => j9 hL2 z.1), fCls_app (t := fTg (tk_k c n i)) (by rw [j6]; exact hlow) P o1 (fun a ha => ⟨pP a ha, by have := (hP a ha).2; omega⟩)]
      have may : 3 ≤ L + 1 → tk_k c n (i + 1) = 115 → fMay (tk_k c n i :: st) = false := fun z _ => by
        have := j10 (by omega)
        show (tk_k c n i == 40 || decide (fTg (tk_k c n i) < 4)) = false
        rw [beq_false_of_ne j3, decide_eq_false (by omega)]
        rfl
      simp only [e1]
      rcases hs v1 f (i + 1) (o1 ++ fMp P) (tk_k c n i :: st) own x1 d1 (Or.inr ⟨_, _, rfl, Or.inr j8⟩) may ho (by rw [List.length_append, fMp_len, n1]; omega) with ⟨v2, f2, i2, o2, P2, w2, e2, x2, ⟨k2, s2⟩, p2, q2, r2, a2, b2, t2⟩ | ⟨v2, f2, s, j, e2, x2, s0, s1, k2, s2⟩
      · simp only [e2, ite11]
        have pP2 : ∀ a ∈ P2, a ≠ 40 := fun a ha => (p2 a ha).1
        have t2' := t2
        rw [fNb_app P2 _ pP2, n1] at t2'
        obtain ⟨v3, f3, e3, x3, _⟩ := XS.add (NF := NF) (k := tk_k c n i) (x := 0) (y := 0) x2 (by rw [List.length_append, fMp_len]; omega) (fun _ => rfl)
        simp only [e3]
        rw [nI_1]
        have hPP : (P2 ++ [tk_k c n i]) ++ st = P2 ++ tk_k c n i :: st := by simp
        have hk2 := tk_lt hc i2
        refine ih (l + 1) v3 f3 i2 o2 (P2 ++ [tk_k c n i]) w2 ?_ ⟨k2 + (1 + k0), fun m => ?_⟩ ?_ q2 ?_ (by omega) b2 (by rw [hPP]; exact t2) (by omega) (by omega)
        · rw [fMp_app, ← List.append_assoc]; exact x3
        · rw [show m + (k2 + (1 + k0)) = (m + k2) + (1 + k0) by omega, go (m + k2), s2 m, hPP]
        · intro a ha
          rcases List.mem_append.mp ha with h | h
          · have := p2 a h
            have := (tT_s L hL).1
            exact ⟨(p2 a h).1, by omega⟩
          · rw [List.mem_singleton.mp h]; exact ⟨j3, j7⟩
        · intro z1 z2
          rw [hPP]
          exact r2 (by omega) z2
      · simp only [e2, ite01]
        refine Or.inr ⟨v2, f2, s, j, rfl, x2, s0, s1, k2 + (1 + k0), fun m => ?_⟩
        rw [show m + (k2 + (1 + k0)) = (m + k2) + (1 + k0) by omega, go (m + k2), s2 m]
    · rw [if_neg hjb, ite01]
      exact Or.inl ⟨v, f, i, o1, P, own, rfl, hx, hlink, hP, nJ_s L hL _ hk (Bool.eq_false_iff.mpr hjb) hj, hr, hlt, ho, hb⟩
theorem simLv (T : TX c n v0 f0) (hc : ∀ k, k < n → c k < 256) {w L : Nat} (hw : w ≤ 7) (hL : L < 5) (hL2 : L ≠ 2) {gs : XG} (hs : SIM c n v0 f0 w (L + 1) gs) : SIM c n v0 f0 w L (xmLv NF gs (nI L) 1600) := by
  intro v f i out st own hx hd hlow hN ho hb
  have hT := tT_s L hL
  unfold xmLv
  rcases hs v f i out st own hx hd (hlow.mono hT.2) (fun z => hN (by omega)) ho hb with ⟨v3, f3, i3, o3, P, w3, e3, x3, l3, p3, j3, r3, a3, b3, q3⟩ | ⟨v3, f3, s, j, e3, x3, s0, s2, k3, s3⟩
  · simp only [e3, ite11]
    exact simCh T hc hw hL hL2 hs hd hlow (4294967296 + NF) 0 v3 f3 i3 o3 P w3 x3 l3 (fun a ha => ⟨(p3 a ha).1, by have := (p3 a ha).2; omega⟩) j3 (fun z q => r3 (by omega) q) a3 b3 q3 (Nat.zero_le _) (by omega)
  · simp only [e3, ite01]
    exact Or.inr ⟨v3, f3, s, j, rfl, x3, s0, s2, k3, s3⟩
theorem simRel (T : TX c n v0 f0) (hc : ∀ k, k < n → c k < 256) {w : Nat} {gs : XG} (hs : SIM c n v0 f0 w 3 gs) {v : Nat → Int32} {f : Nat → Nat → Int32} {i own : Nat} {out : List (Nat × Int32)} {st : List Nat} (hx : XS c n v0 f0 v f i out own) (hd : fDp st = w) (hlow : fLow 4 st) (hN : tk_k c n i ≠ 115) (ho : own ≤ 30) (hb : out.length + fNb st ≤ 9 * own + fDp st) : YES c n v0 f0 2 (xmLv NF gs 2 1 v f) i out st own ∨ NOPE c n v0 f0 (xmLv NF gs 2 1 v f) i out st own := by
  unfold xmLv
  rcases hs v f i out st own hx hd (hlow.mono (show 4 ≤ cT 3 by decide)) (fun _ z => absurd z hN) ho hb with ⟨v3, f3, i3, o3, P, w3, e3, x3, ⟨k3, l3⟩, p3, j3, r3, a3, b3, q3⟩ | ⟨v3, f3, s, j, e3, x3, s0, s2, k3, s3⟩
  · simp only [e3, ite11]
    have hk3 := tk_lt hc i3
    have pP : ∀ a ∈ P, a ≠ 40 := fun a ha => (p3 a ha).1
    have p5 : ∀ a ∈ P, a ≠ 40 ∧ 4 < fTg a := fun a ha => ⟨(p3 a ha).1, by have := (p3 a ha).2; have : tT 3 = 5 := rfl; omega⟩
    have q3' := q3
    rw [fNb_app P st pP] at q3'
    have hnr : fHasR (P ++ st) = false := by rw [fHasR_app P p5]; exact fHasR_low hlow
    obtain ⟨M, hM⟩ : ∃ M, 4294967296 + NF = M + 2 := ⟨4294967294 + NF, by omega⟩
    rw [hM, xmCh, if_neg (show ¬ (1 : Int32) ≤ 0 by decide), x3.1.1, show gsX_X6_joins_1 NF 2 (nI (tk_k c n i3)) v3 f3 = _ from jn (L := 2) (by decide) hk3]
    by_cases hjb : jB 2 (tk_k c n i3) = true
    · rw [if_pos hjb, ite11]
      obtain ⟨j1, j2, jj3, j4, j5, j6, j7, j8, j9, j10⟩ := jB_f 2 (by decide) _ hk3 hjb
      have j6 : fTg (tk_k c n i3) = 4 := j6
      obtain ⟨v1, e1, x1⟩ := XS.adv (NF := NF) T x3
      have d1 : fDp (tk_k c n i3 :: st) = w := by show (if tk_k c n i3 = 115 ∨ tk_k c n i3 = 40 then 1 else 0) + fDp st = _; rw [if_neg (fun z => z.elim j4 jj3)]; omega
      have n1 : fNb (tk_k c n i3 :: st) = 1 + fNb st := by show (if tk_k c n i3 = 40 then 0 else 1) + fNb st = _; rw [if_neg jj3]
      have go : ∀ m, sy (tk_k c n) (tk_n c n) (m + (1 + k3)) true i out st own = sy (tk_k c n) (tk_n c n) m true (i3 + 1) (o3 ++ fMp P) (tk_k c n i3 :: st) w3 := fun m => by
        rw [show m + (1 + k3) = (m + 1) + k3 by omega, l3 (m + 1), sy_sg j2 j1 (fun z => by rw [hnr] at z; exact absurd z.2 (by decide)), fCls_app (t := fTg (tk_k c n i3)) (by rw [j6]; exact hlow) P o3 (fun a ha => ⟨pP a ha, by have := (p5 a ha).2; omega⟩)]
      have may : 3 ≤ 3 → tk_k c n (i3 + 1) = 115 → fMay (tk_k c n i3 :: st) = false := fun _ _ => by
        show (tk_k c n i3 == 40 || decide (fTg (tk_k c n i3) < 4)) = false
        rw [beq_false_of_ne jj3, decide_eq_false (by omega)]
        rfl
      simp only [e1]
      rcases hs v1 f3 (i3 + 1) (o3 ++ fMp P) (tk_k c n i3 :: st) w3 x1 d1 (Or.inr ⟨_, _, rfl, Or.inr (by rw [j6]; decide)⟩) may b3 (by rw [List.length_append, fMp_len, n1]; omega) with ⟨v2, f2, i2, o2, P2, w2, e2, x2, ⟨k2, s2⟩, p2, q2, r2, a2, b2, t2⟩ | ⟨v2, f2, s, j, e2, x2, s0, s1, k2, s2⟩
      · simp only [e2, ite11]
        have pP2 : ∀ a ∈ P2, a ≠ 40 := fun a ha => (p2 a ha).1
        have p52 : ∀ a ∈ P2, a ≠ 40 ∧ 4 < fTg a := fun a ha => ⟨(p2 a ha).1, by have := (p2 a ha).2; have : tT 3 = 5 := rfl; omega⟩
        have t2' := t2
        rw [fNb_app P2 _ pP2, n1] at t2'
        obtain ⟨v4, f4, e4, x4, _⟩ := XS.add (NF := NF) (k := tk_k c n i3) (x := 0) (y := 0) x2 (by rw [List.length_append, fMp_len]; omega) (fun _ => rfl)
        have hPP : (P2 ++ [tk_k c n i3]) ++ st = P2 ++ tk_k c n i3 :: st := by simp
        simp only [e4]
        rw [xmCh, if_pos (show (1 : Int32) ≤ 0 + 1 by decide)]
        refine Or.inl ⟨v4, f4, i2, o2, P2 ++ [tk_k c n i3], w2, rfl, ?_, ⟨k2 + (1 + k3), fun m => ?_⟩, ?_, nJ_23 q2, fun _ _ => ?_, by omega, b2, by rw [hPP]; exact t2⟩
        · rw [fMp_app, ← List.append_assoc]; exact x4
        · rw [show m + (k2 + (1 + k3)) = (m + k2) + (1 + k3) by omega, go (m + k2), s2 m, hPP]
        · intro a ha
          rcases List.mem_append.mp ha with h | h
          · have := p2 a h
            have : tT 3 = 5 := rfl
            have : tT 2 = 3 := rfl
            exact ⟨(p2 a h).1, by omega⟩
          · rw [List.mem_singleton.mp h]; exact ⟨jj3, j7⟩
        · rw [hPP, fHasR_app P2 p52]
          show (if tk_k c n i3 = 40 then false else if 4 < fTg (tk_k c n i3) then fHasR st else decide (fTg (tk_k c n i3) = 4)) = true
          rw [if_neg jj3, if_neg (by omega), decide_eq_true j6]
      · simp only [e2, ite01]
        refine Or.inr ⟨v2, f2, s, j, rfl, x2, s0, s1, k2 + (1 + k3), fun m => ?_⟩
        rw [show m + (k2 + (1 + k3)) = (m + k2) + (1 + k3) by omega, go (m + k2), s2 m]
    · rw [if_neg hjb, ite01]
      exact Or.inl ⟨v3, f3, i3, o3, P, w3, rfl, x3, ⟨k3, l3⟩, fun a ha => ⟨(p3 a ha).1, by have := (p5 a ha).2; have : tT 2 = 3 := rfl; omega⟩, nJ_23 j3, fun _ z => absurd z hjb, a3, b3, q3⟩
  · simp only [e3, ite01]
    exact Or.inr ⟨v3, f3, s, j, rfl, x3, s0, s2, k3, s3⟩
theorem simNeg7 (hc : ∀ k, k < n → c k < 256) {v : Nat → Int32} {f : Nat → Nat → Int32} {i own : Nat} {out : List (Nat × Int32)} {st : List Nat} (hx : XS c n v0 f0 v f i out own) (hd : fDp st = 7) (hm : fMay st = true) (h115 : tk_k c n i = 115) : NOPE c n v0 f0 (xmB (gsX_X6_refuse_1 NF v f)) i out st own := nopeR hc hx (fun m => sy_notF h115 hm (by omega))
theorem simNeg (T : TX c n v0 f0) (hc : ∀ k, k < n → c k < 256) {w : Nat} (hw : w ≤ 6) {gs : XG} (hs : SIM c n v0 f0 (w + 1) 2 gs) {v : Nat → Int32} {f : Nat → Nat → Int32} {i own : Nat} {out : List (Nat × Int32)} {st : List Nat} (hx : XS c n v0 f0 v f i out own) (hd : fDp st = w) (hm : fMay st = true) (h115 : tk_k c n i = 115) (ho : own ≤ 30) (hb : out.length + fNb st ≤ 9 * own + fDp st) : YES c n v0 f0 2 (xmNeg NF gs v f) i out st own ∨ NOPE c n v0 f0 (xmNeg NF gs v f) i out st own := by
  unfold xmNeg
  obtain ⟨v1, e1, x1⟩ := XS.adv (NF := NF) T hx
  simp only [e1]
  have d1 : fDp (115 :: st) = w + 1 := by show (if (115 : Nat) = 115 ∨ (115 : Nat) = 40 then 1 else 0) + fDp st = _; rw [if_pos (Or.inl rfl)]; omega
  have n1 : fNb (115 :: st) = 1 + fNb st := by show (if (115 : Nat) = 40 then 0 else 1) + fNb st = _; rw [if_neg (by decide)]
  rcases hs v1 f (i + 1) out (115 :: st) own x1 d1 (Or.inr ⟨115, st, rfl, Or.inr (by decide)⟩) (fun z => by omega) ho (by omega) with ⟨v2, f2, i2, o2, P2, w2, e2, x2, ⟨k2, s2⟩, p2, q2, r2, a2, b2, t2⟩ | ⟨v2, f2, s, j, e2, x2, s0, s1, k2, s2⟩
  · simp only [e2, ite11]
    have pP2 : ∀ a ∈ P2, a ≠ 40 := fun a ha => (p2 a ha).1
    have t2' := t2
    rw [fNb_app P2 _ pP2, n1] at t2'
    obtain ⟨v3, f3, e3, x3, _⟩ := XS.add (NF := NF) (k := 115) (x := 0) (y := 0) x2 (by rw [List.length_append, fMp_len]; omega) (fun _ => rfl)
    have hPP : (P2 ++ [115]) ++ st = P2 ++ 115 :: st := by simp
    have e3 : gsX_X4_add_1 NF 115 0 v2 f2 = (v3, f3) := e3
    simp only [e3]
    refine Or.inl ⟨v3, f3, i2, o2, P2 ++ [115], w2, rfl, ?_, ⟨k2 + 1, fun m => ?_⟩, ?_, q2, fun z1 z2 => ?_, a2, b2, by rw [hPP]; exact t2⟩
    · rw [fMp_app, ← List.append_assoc]; exact x3
    · rw [show m + (k2 + 1) = (m + k2) + 1 by omega, sy_not h115 hm (by omega), s2 m, hPP]
    · intro a ha
      rcases List.mem_append.mp ha with h | h
      · exact p2 a h
      · rw [List.mem_singleton.mp h]; exact ⟨by decide, by decide⟩
    · rw [hPP]; exact r2 z1 z2
  · simp only [e2, ite01]
    refine Or.inr ⟨v2, f2, s, j, rfl, x2, s0, s1, k2 + 1, fun m => ?_⟩
    rw [show m + (k2 + 1) = (m + k2) + 1 by omega, sy_not h115 hm (by omega), s2 m]
theorem fMay_low {st : List Nat} (h : fLow 4 st) : fMay st = true := by
  rcases h with rfl | ⟨a, l, rfl, h⟩
  · rfl
  · show (a == 40 || decide (fTg a < 4)) = true
    rcases h with h | h
    · rw [h]; rfl
    · rw [decide_eq_true h]; exact Bool.or_true _
theorem simOne (T : TX c n v0 f0) (hc : ∀ k, k < n → c k < 256) {w : Nat} {gn gs : XG} (hs : SIM c n v0 f0 w 3 gs) (hn : ∀ v f i out st own, XS c n v0 f0 v f i out own → fDp st = w → fMay st = true → tk_k c n i = 115 → own ≤ 30 → out.length + fNb st ≤ 9 * own + fDp st → YES c n v0 f0 2 (gn v f) i out st own ∨ NOPE c n v0 f0 (gn v f) i out st own) : SIM c n v0 f0 w 2 (xmOne NF gn gs) := by
  intro v f i out st own hx hd hlow hN ho hb
  have hk := tk_lt hc i
  have hlow : fLow 4 st := hlow
  unfold xmOne
  rw [hx.1.1]
  by_cases h : tk_k c n i = 115
  · rw [if_pos (by rw [h]; rfl)]
    exact xmB_or (hn v f i out st own hx hd (fMay_low hlow) h ho hb)
  · rw [if_neg (nlit 115 115 rfl (by omega) (by decide) h)]
    exact simRel T hc hs hx hd hlow h ho hb
end
end
end
section
section
variable {NF : Nat}
theorem stkF {g : XG} : (fun v f => stk NF (g v f)) = g := funext (fun v => funext (fun f => stk_eq NF (g v f)))
theorem u_7 : gsX_X6_unit_8 NF = xmUn NF (xmBr7 NF) := rfl
theorem ng_7 : gsX_X6_negation_1 NF = fun v f => xmB (gsX_X6_refuse_1 NF v f) := rfl
theorem e_7_5 : (gsX_X6_expression_48 NF) = fun v f => xmB (gsX_X6_unit_8 NF v f) := rfl
theorem el_7_4 : ∀ (m : Nat) (l : Int32) (v : Nat → Int32) (f : Nat → Nat → Int32), gsX_X6_expression_47_L6 NF m l v f = xmCh NF (gsX_X6_expression_48 NF) (nI 4) 1600 m l v f := by
  intro m
  induction m with
  | zero => intro l v f; rfl
  | succ m ih =>
    intro l v f
    simp only [gsX_X6_expression_47_L6, xmCh, ih]
    all_goals rfl
theorem e_7_4 : gsX_X6_expression_47 NF = xmLv NF (gsX_X6_expression_48 NF) (nI 4) 1600 := by
  funext v f
  unfold gsX_X6_expression_47 xmLv
  simp only [el_7_4]
theorem el_7_3 : ∀ (m : Nat) (l : Int32) (v : Nat → Int32) (f : Nat → Nat → Int32), gsX_X6_expression_46_L6 NF m l v f = xmCh NF (gsX_X6_expression_47 NF) (nI 3) 1600 m l v f := by
  intro m
  induction m with
  | zero => intro l v f; rfl
  | succ m ih =>
    intro l v f
    simp only [gsX_X6_expression_46_L6, xmCh, ih]
    all_goals rfl
theorem e_7_3 : gsX_X6_expression_46 NF = xmLv NF (gsX_X6_expression_47 NF) (nI 3) 1600 := by
  funext v f
  unfold gsX_X6_expression_46 xmLv
  simp only [el_7_3]
theorem el_7_2 : ∀ (m : Nat) (l : Int32) (v : Nat → Int32) (f : Nat → Nat → Int32), gsX_X6_expression_45_L7 NF m l v f = xmCh NF (gsX_X6_expression_46 NF) (nI 2) 1 m l v f := by
  intro m
  induction m with
  | zero => intro l v f; rfl
  | succ m ih =>
    intro l v f
    simp only [gsX_X6_expression_45_L7, xmCh, ih]
    all_goals rfl
theorem e_7_2 : gsX_X6_expression_45 NF = xmOne NF (gsX_X6_negation_1 NF) (gsX_X6_expression_46 NF) := by
  funext v f
  unfold gsX_X6_expression_45 xmOne xmLv xmB
  simp only [el_7_2]
  all_goals rfl
theorem el_7_1 : ∀ (m : Nat) (l : Int32) (v : Nat → Int32) (f : Nat → Nat → Int32), gsX_X6_expression_44_L6 NF m l v f = xmCh NF (gsX_X6_expression_45 NF) (nI 1) 1600 m l v f := by
  intro m
  induction m with
  | zero => intro l v f; rfl
  | succ m ih =>
    intro l v f
    simp only [gsX_X6_expression_44_L6, xmCh, ih]
    all_goals rfl
theorem e_7_1 : gsX_X6_expression_44 NF = xmLv NF (gsX_X6_expression_45 NF) (nI 1) 1600 := by
  funext v f
  unfold gsX_X6_expression_44 xmLv
  simp only [el_7_1]
theorem el_7_0 : ∀ (m : Nat) (l : Int32) (v : Nat → Int32) (f : Nat → Nat → Int32), gsX_X6_expression_43_L6 NF m l v f = xmCh NF (gsX_X6_expression_44 NF) (nI 0) 1600 m l v f := by
  intro m
  induction m with
  | zero => intro l v f; rfl
  | succ m ih =>
    intro l v f
    simp only [gsX_X6_expression_43_L6, xmCh, ih]
    all_goals rfl
theorem e_7_0 : gsX_X6_expression_43 NF = xmLv NF (gsX_X6_expression_44 NF) (nI 0) 1600 := by
  funext v f
  unfold gsX_X6_expression_43 xmLv
  simp only [el_7_0]
theorem u_6 : gsX_X6_unit_7 NF = xmUn NF (xmBra NF (gsX_X6_expression_43 NF)) := by
  have h : gsX_X6_unit_7 NF = xmUn NF (xmBra NF (fun v f => stk NF ((gsX_X6_expression_43 NF) v f))) := rfl
  rw [h, stkF]
theorem ng_6 : gsX_X6_negation_2 NF = xmNeg NF (gsX_X6_expression_45 NF) := by
  have h : gsX_X6_negation_2 NF = xmNeg NF (fun v f => stk NF ((gsX_X6_expression_45 NF) v f)) := rfl
  rw [h, stkF]
theorem e_6_5 : (gsX_X6_expression_42 NF) = fun v f => xmB (gsX_X6_unit_7 NF v f) := rfl
theorem el_6_4 : ∀ (m : Nat) (l : Int32) (v : Nat → Int32) (f : Nat → Nat → Int32), gsX_X6_expression_41_L6 NF m l v f = xmCh NF (gsX_X6_expression_42 NF) (nI 4) 1600 m l v f := by
  intro m
  induction m with
  | zero => intro l v f; rfl
  | succ m ih =>
    intro l v f
    simp only [gsX_X6_expression_41_L6, xmCh, ih]
    all_goals rfl
theorem e_6_4 : gsX_X6_expression_41 NF = xmLv NF (gsX_X6_expression_42 NF) (nI 4) 1600 := by
  funext v f
  unfold gsX_X6_expression_41 xmLv
  simp only [el_6_4]
theorem el_6_3 : ∀ (m : Nat) (l : Int32) (v : Nat → Int32) (f : Nat → Nat → Int32), gsX_X6_expression_40_L6 NF m l v f = xmCh NF (gsX_X6_expression_41 NF) (nI 3) 1600 m l v f := by
  intro m
  induction m with
  | zero => intro l v f; rfl
  | succ m ih =>
    intro l v f
    simp only [gsX_X6_expression_40_L6, xmCh, ih]
    all_goals rfl
theorem e_6_3 : gsX_X6_expression_40 NF = xmLv NF (gsX_X6_expression_41 NF) (nI 3) 1600 := by
  funext v f
  unfold gsX_X6_expression_40 xmLv
  simp only [el_6_3]
theorem el_6_2 : ∀ (m : Nat) (l : Int32) (v : Nat → Int32) (f : Nat → Nat → Int32), gsX_X6_expression_39_L7 NF m l v f = xmCh NF (gsX_X6_expression_40 NF) (nI 2) 1 m l v f := by
  intro m
  induction m with
  | zero => intro l v f; rfl
  | succ m ih =>
    intro l v f
    simp only [gsX_X6_expression_39_L7, xmCh, ih]
    all_goals rfl
theorem e_6_2 : gsX_X6_expression_39 NF = xmOne NF (gsX_X6_negation_2 NF) (gsX_X6_expression_40 NF) := by
  funext v f
  unfold gsX_X6_expression_39 xmOne xmLv xmB
  simp only [el_6_2]
  all_goals rfl
theorem el_6_1 : ∀ (m : Nat) (l : Int32) (v : Nat → Int32) (f : Nat → Nat → Int32), gsX_X6_expression_38_L6 NF m l v f = xmCh NF (gsX_X6_expression_39 NF) (nI 1) 1600 m l v f := by
  intro m
  induction m with
  | zero => intro l v f; rfl
  | succ m ih =>
    intro l v f
    simp only [gsX_X6_expression_38_L6, xmCh, ih]
    all_goals rfl
theorem e_6_1 : gsX_X6_expression_38 NF = xmLv NF (gsX_X6_expression_39 NF) (nI 1) 1600 := by
  funext v f
  unfold gsX_X6_expression_38 xmLv
  simp only [el_6_1]
theorem el_6_0 : ∀ (m : Nat) (l : Int32) (v : Nat → Int32) (f : Nat → Nat → Int32), gsX_X6_expression_37_L6 NF m l v f = xmCh NF (gsX_X6_expression_38 NF) (nI 0) 1600 m l v f := by
  intro m
  induction m with
  | zero => intro l v f; rfl
  | succ m ih =>
    intro l v f
    simp only [gsX_X6_expression_37_L6, xmCh, ih]
    all_goals rfl
theorem e_6_0 : gsX_X6_expression_37 NF = xmLv NF (gsX_X6_expression_38 NF) (nI 0) 1600 := by
  funext v f
  unfold gsX_X6_expression_37 xmLv
  simp only [el_6_0]
theorem u_5 : gsX_X6_unit_6 NF = xmUn NF (xmBra NF (gsX_X6_expression_37 NF)) := by
  have h : gsX_X6_unit_6 NF = xmUn NF (xmBra NF (fun v f => stk NF ((gsX_X6_expression_37 NF) v f))) := rfl
  rw [h, stkF]
theorem ng_5 : gsX_X6_negation_3 NF = xmNeg NF (gsX_X6_expression_39 NF) := by
  have h : gsX_X6_negation_3 NF = xmNeg NF (fun v f => stk NF ((gsX_X6_expression_39 NF) v f)) := rfl
  rw [h, stkF]
theorem e_5_5 : (gsX_X6_expression_36 NF) = fun v f => xmB (gsX_X6_unit_6 NF v f) := rfl
theorem el_5_4 : ∀ (m : Nat) (l : Int32) (v : Nat → Int32) (f : Nat → Nat → Int32), gsX_X6_expression_35_L6 NF m l v f = xmCh NF (gsX_X6_expression_36 NF) (nI 4) 1600 m l v f := by
  intro m
  induction m with
  | zero => intro l v f; rfl
  | succ m ih =>
    intro l v f
    simp only [gsX_X6_expression_35_L6, xmCh, ih]
    all_goals rfl
theorem e_5_4 : gsX_X6_expression_35 NF = xmLv NF (gsX_X6_expression_36 NF) (nI 4) 1600 := by
  funext v f
  unfold gsX_X6_expression_35 xmLv
  simp only [el_5_4]
theorem el_5_3 : ∀ (m : Nat) (l : Int32) (v : Nat → Int32) (f : Nat → Nat → Int32), gsX_X6_expression_34_L6 NF m l v f = xmCh NF (gsX_X6_expression_35 NF) (nI 3) 1600 m l v f := by
  intro m
  induction m with
  | zero => intro l v f; rfl
  | succ m ih =>
    intro l v f
    simp only [gsX_X6_expression_34_L6, xmCh, ih]
    all_goals rfl
theorem e_5_3 : gsX_X6_expression_34 NF = xmLv NF (gsX_X6_expression_35 NF) (nI 3) 1600 := by
  funext v f
  unfold gsX_X6_expression_34 xmLv
  simp only [el_5_3]
theorem el_5_2 : ∀ (m : Nat) (l : Int32) (v : Nat → Int32) (f : Nat → Nat → Int32), gsX_X6_expression_33_L7 NF m l v f = xmCh NF (gsX_X6_expression_34 NF) (nI 2) 1 m l v f := by
  intro m
  induction m with
  | zero => intro l v f; rfl
  | succ m ih =>
    intro l v f
    simp only [gsX_X6_expression_33_L7, xmCh, ih]
    all_goals rfl
theorem e_5_2 : gsX_X6_expression_33 NF = xmOne NF (gsX_X6_negation_3 NF) (gsX_X6_expression_34 NF) := by
  funext v f
  unfold gsX_X6_expression_33 xmOne xmLv xmB
  simp only [el_5_2]
  all_goals rfl
theorem el_5_1 : ∀ (m : Nat) (l : Int32) (v : Nat → Int32) (f : Nat → Nat → Int32), gsX_X6_expression_32_L6 NF m l v f = xmCh NF (gsX_X6_expression_33 NF) (nI 1) 1600 m l v f := by
  intro m
  induction m with
  | zero => intro l v f; rfl
  | succ m ih =>
    intro l v f
    simp only [gsX_X6_expression_32_L6, xmCh, ih]
    all_goals rfl
theorem e_5_1 : gsX_X6_expression_32 NF = xmLv NF (gsX_X6_expression_33 NF) (nI 1) 1600 := by
  funext v f
  unfold gsX_X6_expression_32 xmLv
  simp only [el_5_1]
theorem el_5_0 : ∀ (m : Nat) (l : Int32) (v : Nat → Int32) (f : Nat → Nat → Int32), gsX_X6_expression_31_L6 NF m l v f = xmCh NF (gsX_X6_expression_32 NF) (nI 0) 1600 m l v f := by
  intro m
  induction m with
  | zero => intro l v f; rfl
  | succ m ih =>
    intro l v f
    simp only [gsX_X6_expression_31_L6, xmCh, ih]
    all_goals rfl
theorem e_5_0 : gsX_X6_expression_31 NF = xmLv NF (gsX_X6_expression_32 NF) (nI 0) 1600 := by
  funext v f
  unfold gsX_X6_expression_31 xmLv
  simp only [el_5_0]
theorem u_4 : gsX_X6_unit_5 NF = xmUn NF (xmBra NF (gsX_X6_expression_31 NF)) := by
  have h : gsX_X6_unit_5 NF = xmUn NF (xmBra NF (fun v f => stk NF ((gsX_X6_expression_31 NF) v f))) := rfl
  rw [h, stkF]
theorem ng_4 : gsX_X6_negation_4 NF = xmNeg NF (gsX_X6_expression_33 NF) := by
  have h : gsX_X6_negation_4 NF = xmNeg NF (fun v f => stk NF ((gsX_X6_expression_33 NF) v f)) := rfl
  rw [h, stkF]
theorem e_4_5 : (gsX_X6_expression_30 NF) = fun v f => xmB (gsX_X6_unit_5 NF v f) := rfl
theorem el_4_4 : ∀ (m : Nat) (l : Int32) (v : Nat → Int32) (f : Nat → Nat → Int32), gsX_X6_expression_29_L6 NF m l v f = xmCh NF (gsX_X6_expression_30 NF) (nI 4) 1600 m l v f := by
  intro m
  induction m with
  | zero => intro l v f; rfl
  | succ m ih =>
    intro l v f
    simp only [gsX_X6_expression_29_L6, xmCh, ih]
    all_goals rfl
theorem e_4_4 : gsX_X6_expression_29 NF = xmLv NF (gsX_X6_expression_30 NF) (nI 4) 1600 := by
  funext v f
  unfold gsX_X6_expression_29 xmLv
  simp only [el_4_4]
theorem el_4_3 : ∀ (m : Nat) (l : Int32) (v : Nat → Int32) (f : Nat → Nat → Int32), gsX_X6_expression_28_L6 NF m l v f = xmCh NF (gsX_X6_expression_29 NF) (nI 3) 1600 m l v f := by
  intro m
  induction m with
  | zero => intro l v f; rfl
  | succ m ih =>
    intro l v f
    simp only [gsX_X6_expression_28_L6, xmCh, ih]
    all_goals rfl
theorem e_4_3 : gsX_X6_expression_28 NF = xmLv NF (gsX_X6_expression_29 NF) (nI 3) 1600 := by
  funext v f
  unfold gsX_X6_expression_28 xmLv
  simp only [el_4_3]
theorem el_4_2 : ∀ (m : Nat) (l : Int32) (v : Nat → Int32) (f : Nat → Nat → Int32), gsX_X6_expression_27_L7 NF m l v f = xmCh NF (gsX_X6_expression_28 NF) (nI 2) 1 m l v f := by
  intro m
  induction m with
  | zero => intro l v f; rfl
  | succ m ih =>
    intro l v f
    simp only [gsX_X6_expression_27_L7, xmCh, ih]
    all_goals rfl
theorem e_4_2 : gsX_X6_expression_27 NF = xmOne NF (gsX_X6_negation_4 NF) (gsX_X6_expression_28 NF) := by
  funext v f
  unfold gsX_X6_expression_27 xmOne xmLv xmB
  simp only [el_4_2]
  all_goals rfl
theorem el_4_1 : ∀ (m : Nat) (l : Int32) (v : Nat → Int32) (f : Nat → Nat → Int32), gsX_X6_expression_26_L6 NF m l v f = xmCh NF (gsX_X6_expression_27 NF) (nI 1) 1600 m l v f := by
  intro m
  induction m with
  | zero => intro l v f; rfl
  | succ m ih =>
    intro l v f
    simp only [gsX_X6_expression_26_L6, xmCh, ih]
    all_goals rfl
theorem e_4_1 : gsX_X6_expression_26 NF = xmLv NF (gsX_X6_expression_27 NF) (nI 1) 1600 := by
  funext v f
  unfold gsX_X6_expression_26 xmLv
  simp only [el_4_1]
theorem el_4_0 : ∀ (m : Nat) (l : Int32) (v : Nat → Int32) (f : Nat → Nat → Int32), gsX_X6_expression_25_L6 NF m l v f = xmCh NF (gsX_X6_expression_26 NF) (nI 0) 1600 m l v f := by
  intro m
  induction m with
  | zero => intro l v f; rfl
  | succ m ih =>
    intro l v f
    simp only [gsX_X6_expression_25_L6, xmCh, ih]
    all_goals rfl
theorem e_4_0 : gsX_X6_expression_25 NF = xmLv NF (gsX_X6_expression_26 NF) (nI 0) 1600 := by
  funext v f
  unfold gsX_X6_expression_25 xmLv
  simp only [el_4_0]
theorem u_3 : gsX_X6_unit_4 NF = xmUn NF (xmBra NF (gsX_X6_expression_25 NF)) := by
  have h : gsX_X6_unit_4 NF = xmUn NF (xmBra NF (fun v f => stk NF ((gsX_X6_expression_25 NF) v f))) := rfl
  rw [h, stkF]
theorem ng_3 : gsX_X6_negation_5 NF = xmNeg NF (gsX_X6_expression_27 NF) := by
  have h : gsX_X6_negation_5 NF = xmNeg NF (fun v f => stk NF ((gsX_X6_expression_27 NF) v f)) := rfl
  rw [h, stkF]
theorem e_3_5 : (gsX_X6_expression_24 NF) = fun v f => xmB (gsX_X6_unit_4 NF v f) := rfl
theorem el_3_4 : ∀ (m : Nat) (l : Int32) (v : Nat → Int32) (f : Nat → Nat → Int32), gsX_X6_expression_23_L6 NF m l v f = xmCh NF (gsX_X6_expression_24 NF) (nI 4) 1600 m l v f := by
  intro m
  induction m with
  | zero => intro l v f; rfl
  | succ m ih =>
    intro l v f
    simp only [gsX_X6_expression_23_L6, xmCh, ih]
    all_goals rfl
theorem e_3_4 : gsX_X6_expression_23 NF = xmLv NF (gsX_X6_expression_24 NF) (nI 4) 1600 := by
  funext v f
  unfold gsX_X6_expression_23 xmLv
  simp only [el_3_4]
theorem el_3_3 : ∀ (m : Nat) (l : Int32) (v : Nat → Int32) (f : Nat → Nat → Int32), gsX_X6_expression_22_L6 NF m l v f = xmCh NF (gsX_X6_expression_23 NF) (nI 3) 1600 m l v f := by
  intro m
  induction m with
  | zero => intro l v f; rfl
  | succ m ih =>
    intro l v f
    simp only [gsX_X6_expression_22_L6, xmCh, ih]
    all_goals rfl
theorem e_3_3 : gsX_X6_expression_22 NF = xmLv NF (gsX_X6_expression_23 NF) (nI 3) 1600 := by
  funext v f
  unfold gsX_X6_expression_22 xmLv
  simp only [el_3_3]
theorem el_3_2 : ∀ (m : Nat) (l : Int32) (v : Nat → Int32) (f : Nat → Nat → Int32), gsX_X6_expression_21_L7 NF m l v f = xmCh NF (gsX_X6_expression_22 NF) (nI 2) 1 m l v f := by
  intro m
  induction m with
  | zero => intro l v f; rfl
  | succ m ih =>
    intro l v f
    simp only [gsX_X6_expression_21_L7, xmCh, ih]
    all_goals rfl
theorem e_3_2 : gsX_X6_expression_21 NF = xmOne NF (gsX_X6_negation_5 NF) (gsX_X6_expression_22 NF) := by
  funext v f
  unfold gsX_X6_expression_21 xmOne xmLv xmB
  simp only [el_3_2]
  all_goals rfl
theorem el_3_1 : ∀ (m : Nat) (l : Int32) (v : Nat → Int32) (f : Nat → Nat → Int32), gsX_X6_expression_20_L6 NF m l v f = xmCh NF (gsX_X6_expression_21 NF) (nI 1) 1600 m l v f := by
  intro m
  induction m with
  | zero => intro l v f; rfl
  | succ m ih =>
    intro l v f
    simp only [gsX_X6_expression_20_L6, xmCh, ih]
    all_goals rfl
theorem e_3_1 : gsX_X6_expression_20 NF = xmLv NF (gsX_X6_expression_21 NF) (nI 1) 1600 := by
  funext v f
  unfold gsX_X6_expression_20 xmLv
  simp only [el_3_1]
theorem el_3_0 : ∀ (m : Nat) (l : Int32) (v : Nat → Int32) (f : Nat → Nat → Int32), gsX_X6_expression_19_L6 NF m l v f = xmCh NF (gsX_X6_expression_20 NF) (nI 0) 1600 m l v f := by
  intro m
  induction m with
  | zero => intro l v f; rfl
  | succ m ih =>
    intro l v f
    simp only [gsX_X6_expression_19_L6, xmCh, ih]
    all_goals rfl
theorem e_3_0 : gsX_X6_expression_19 NF = xmLv NF (gsX_X6_expression_20 NF) (nI 0) 1600 := by
  funext v f
  unfold gsX_X6_expression_19 xmLv
  simp only [el_3_0]
theorem u_2 : gsX_X6_unit_3 NF = xmUn NF (xmBra NF (gsX_X6_expression_19 NF)) := by
  have h : gsX_X6_unit_3 NF = xmUn NF (xmBra NF (fun v f => stk NF ((gsX_X6_expression_19 NF) v f))) := rfl
  rw [h, stkF]
theorem ng_2 : gsX_X6_negation_6 NF = xmNeg NF (gsX_X6_expression_21 NF) := by
  have h : gsX_X6_negation_6 NF = xmNeg NF (fun v f => stk NF ((gsX_X6_expression_21 NF) v f)) := rfl
  rw [h, stkF]
theorem e_2_5 : (gsX_X6_expression_18 NF) = fun v f => xmB (gsX_X6_unit_3 NF v f) := rfl
theorem el_2_4 : ∀ (m : Nat) (l : Int32) (v : Nat → Int32) (f : Nat → Nat → Int32), gsX_X6_expression_17_L6 NF m l v f = xmCh NF (gsX_X6_expression_18 NF) (nI 4) 1600 m l v f := by
  intro m
  induction m with
  | zero => intro l v f; rfl
  | succ m ih =>
    intro l v f
    simp only [gsX_X6_expression_17_L6, xmCh, ih]
    all_goals rfl
theorem e_2_4 : gsX_X6_expression_17 NF = xmLv NF (gsX_X6_expression_18 NF) (nI 4) 1600 := by
  funext v f
  unfold gsX_X6_expression_17 xmLv
  simp only [el_2_4]
theorem el_2_3 : ∀ (m : Nat) (l : Int32) (v : Nat → Int32) (f : Nat → Nat → Int32), gsX_X6_expression_16_L6 NF m l v f = xmCh NF (gsX_X6_expression_17 NF) (nI 3) 1600 m l v f := by
  intro m
  induction m with
  | zero => intro l v f; rfl
  | succ m ih =>
    intro l v f
    simp only [gsX_X6_expression_16_L6, xmCh, ih]
    all_goals rfl
theorem e_2_3 : gsX_X6_expression_16 NF = xmLv NF (gsX_X6_expression_17 NF) (nI 3) 1600 := by
  funext v f
  unfold gsX_X6_expression_16 xmLv
  simp only [el_2_3]
theorem el_2_2 : ∀ (m : Nat) (l : Int32) (v : Nat → Int32) (f : Nat → Nat → Int32), gsX_X6_expression_15_L7 NF m l v f = xmCh NF (gsX_X6_expression_16 NF) (nI 2) 1 m l v f := by
  intro m
  induction m with
  | zero => intro l v f; rfl
  | succ m ih =>
    intro l v f
    simp only [gsX_X6_expression_15_L7, xmCh, ih]
    all_goals rfl
theorem e_2_2 : gsX_X6_expression_15 NF = xmOne NF (gsX_X6_negation_6 NF) (gsX_X6_expression_16 NF) := by
  funext v f
  unfold gsX_X6_expression_15 xmOne xmLv xmB
  simp only [el_2_2]
  all_goals rfl
theorem el_2_1 : ∀ (m : Nat) (l : Int32) (v : Nat → Int32) (f : Nat → Nat → Int32), gsX_X6_expression_14_L6 NF m l v f = xmCh NF (gsX_X6_expression_15 NF) (nI 1) 1600 m l v f := by
  intro m
  induction m with
  | zero => intro l v f; rfl
  | succ m ih =>
    intro l v f
    simp only [gsX_X6_expression_14_L6, xmCh, ih]
    all_goals rfl
theorem e_2_1 : gsX_X6_expression_14 NF = xmLv NF (gsX_X6_expression_15 NF) (nI 1) 1600 := by
  funext v f
  unfold gsX_X6_expression_14 xmLv
  simp only [el_2_1]
theorem el_2_0 : ∀ (m : Nat) (l : Int32) (v : Nat → Int32) (f : Nat → Nat → Int32), gsX_X6_expression_13_L6 NF m l v f = xmCh NF (gsX_X6_expression_14 NF) (nI 0) 1600 m l v f := by
  intro m
  induction m with
  | zero => intro l v f; rfl
  | succ m ih =>
    intro l v f
    simp only [gsX_X6_expression_13_L6, xmCh, ih]
    all_goals rfl
theorem e_2_0 : gsX_X6_expression_13 NF = xmLv NF (gsX_X6_expression_14 NF) (nI 0) 1600 := by
  funext v f
  unfold gsX_X6_expression_13 xmLv
  simp only [el_2_0]
theorem u_1 : gsX_X6_unit_2 NF = xmUn NF (xmBra NF (gsX_X6_expression_13 NF)) := by
  have h : gsX_X6_unit_2 NF = xmUn NF (xmBra NF (fun v f => stk NF ((gsX_X6_expression_13 NF) v f))) := rfl
  rw [h, stkF]
theorem ng_1 : gsX_X6_negation_7 NF = xmNeg NF (gsX_X6_expression_15 NF) := by
  have h : gsX_X6_negation_7 NF = xmNeg NF (fun v f => stk NF ((gsX_X6_expression_15 NF) v f)) := rfl
  rw [h, stkF]
theorem e_1_5 : (gsX_X6_expression_12 NF) = fun v f => xmB (gsX_X6_unit_2 NF v f) := rfl
theorem el_1_4 : ∀ (m : Nat) (l : Int32) (v : Nat → Int32) (f : Nat → Nat → Int32), gsX_X6_expression_11_L6 NF m l v f = xmCh NF (gsX_X6_expression_12 NF) (nI 4) 1600 m l v f := by
  intro m
  induction m with
  | zero => intro l v f; rfl
  | succ m ih =>
    intro l v f
    simp only [gsX_X6_expression_11_L6, xmCh, ih]
    all_goals rfl
theorem e_1_4 : gsX_X6_expression_11 NF = xmLv NF (gsX_X6_expression_12 NF) (nI 4) 1600 := by
  funext v f
  unfold gsX_X6_expression_11 xmLv
  simp only [el_1_4]
theorem el_1_3 : ∀ (m : Nat) (l : Int32) (v : Nat → Int32) (f : Nat → Nat → Int32), gsX_X6_expression_10_L6 NF m l v f = xmCh NF (gsX_X6_expression_11 NF) (nI 3) 1600 m l v f := by
  intro m
  induction m with
  | zero => intro l v f; rfl
  | succ m ih =>
    intro l v f
    simp only [gsX_X6_expression_10_L6, xmCh, ih]
    all_goals rfl
theorem e_1_3 : gsX_X6_expression_10 NF = xmLv NF (gsX_X6_expression_11 NF) (nI 3) 1600 := by
  funext v f
  unfold gsX_X6_expression_10 xmLv
  simp only [el_1_3]
theorem el_1_2 : ∀ (m : Nat) (l : Int32) (v : Nat → Int32) (f : Nat → Nat → Int32), gsX_X6_expression_9_L7 NF m l v f = xmCh NF (gsX_X6_expression_10 NF) (nI 2) 1 m l v f := by
  intro m
  induction m with
  | zero => intro l v f; rfl
  | succ m ih =>
    intro l v f
    simp only [gsX_X6_expression_9_L7, xmCh, ih]
    all_goals rfl
theorem e_1_2 : gsX_X6_expression_9 NF = xmOne NF (gsX_X6_negation_7 NF) (gsX_X6_expression_10 NF) := by
  funext v f
  unfold gsX_X6_expression_9 xmOne xmLv xmB
  simp only [el_1_2]
  all_goals rfl
theorem el_1_1 : ∀ (m : Nat) (l : Int32) (v : Nat → Int32) (f : Nat → Nat → Int32), gsX_X6_expression_8_L6 NF m l v f = xmCh NF (gsX_X6_expression_9 NF) (nI 1) 1600 m l v f := by
  intro m
  induction m with
  | zero => intro l v f; rfl
  | succ m ih =>
    intro l v f
    simp only [gsX_X6_expression_8_L6, xmCh, ih]
    all_goals rfl
theorem e_1_1 : gsX_X6_expression_8 NF = xmLv NF (gsX_X6_expression_9 NF) (nI 1) 1600 := by
  funext v f
  unfold gsX_X6_expression_8 xmLv
  simp only [el_1_1]
theorem el_1_0 : ∀ (m : Nat) (l : Int32) (v : Nat → Int32) (f : Nat → Nat → Int32), gsX_X6_expression_7_L6 NF m l v f = xmCh NF (gsX_X6_expression_8 NF) (nI 0) 1600 m l v f := by
  intro m
  induction m with
  | zero => intro l v f; rfl
  | succ m ih =>
    intro l v f
    simp only [gsX_X6_expression_7_L6, xmCh, ih]
    all_goals rfl
theorem e_1_0 : gsX_X6_expression_7 NF = xmLv NF (gsX_X6_expression_8 NF) (nI 0) 1600 := by
  funext v f
  unfold gsX_X6_expression_7 xmLv
  simp only [el_1_0]
theorem u_0 : gsX_X6_unit_1 NF = xmUn NF (xmBra NF (gsX_X6_expression_7 NF)) := by
  have h : gsX_X6_unit_1 NF = xmUn NF (xmBra NF (fun v f => stk NF ((gsX_X6_expression_7 NF) v f))) := rfl
  rw [h, stkF]
theorem ng_0 : gsX_X6_negation_8 NF = xmNeg NF (gsX_X6_expression_9 NF) := by
  have h : gsX_X6_negation_8 NF = xmNeg NF (fun v f => stk NF ((gsX_X6_expression_9 NF) v f)) := rfl
  rw [h, stkF]
theorem e_0_5 : (gsX_X6_expression_6 NF) = fun v f => xmB (gsX_X6_unit_1 NF v f) := rfl
theorem el_0_4 : ∀ (m : Nat) (l : Int32) (v : Nat → Int32) (f : Nat → Nat → Int32), gsX_X6_expression_5_L6 NF m l v f = xmCh NF (gsX_X6_expression_6 NF) (nI 4) 1600 m l v f := by
  intro m
  induction m with
  | zero => intro l v f; rfl
  | succ m ih =>
    intro l v f
    simp only [gsX_X6_expression_5_L6, xmCh, ih]
    all_goals rfl
theorem e_0_4 : gsX_X6_expression_5 NF = xmLv NF (gsX_X6_expression_6 NF) (nI 4) 1600 := by
  funext v f
  unfold gsX_X6_expression_5 xmLv
  simp only [el_0_4]
theorem el_0_3 : ∀ (m : Nat) (l : Int32) (v : Nat → Int32) (f : Nat → Nat → Int32), gsX_X6_expression_4_L6 NF m l v f = xmCh NF (gsX_X6_expression_5 NF) (nI 3) 1600 m l v f := by
  intro m
  induction m with
  | zero => intro l v f; rfl
  | succ m ih =>
    intro l v f
    simp only [gsX_X6_expression_4_L6, xmCh, ih]
    all_goals rfl
theorem e_0_3 : gsX_X6_expression_4 NF = xmLv NF (gsX_X6_expression_5 NF) (nI 3) 1600 := by
  funext v f
  unfold gsX_X6_expression_4 xmLv
  simp only [el_0_3]
theorem el_0_2 : ∀ (m : Nat) (l : Int32) (v : Nat → Int32) (f : Nat → Nat → Int32), gsX_X6_expression_3_L7 NF m l v f = xmCh NF (gsX_X6_expression_4 NF) (nI 2) 1 m l v f := by
  intro m
  induction m with
  | zero => intro l v f; rfl
  | succ m ih =>
    intro l v f
    simp only [gsX_X6_expression_3_L7, xmCh, ih]
    all_goals rfl
theorem e_0_2 : gsX_X6_expression_3 NF = xmOne NF (gsX_X6_negation_8 NF) (gsX_X6_expression_4 NF) := by
  funext v f
  unfold gsX_X6_expression_3 xmOne xmLv xmB
  simp only [el_0_2]
  all_goals rfl
theorem el_0_1 : ∀ (m : Nat) (l : Int32) (v : Nat → Int32) (f : Nat → Nat → Int32), gsX_X6_expression_2_L6 NF m l v f = xmCh NF (gsX_X6_expression_3 NF) (nI 1) 1600 m l v f := by
  intro m
  induction m with
  | zero => intro l v f; rfl
  | succ m ih =>
    intro l v f
    simp only [gsX_X6_expression_2_L6, xmCh, ih]
    all_goals rfl
theorem e_0_1 : gsX_X6_expression_2 NF = xmLv NF (gsX_X6_expression_3 NF) (nI 1) 1600 := by
  funext v f
  unfold gsX_X6_expression_2 xmLv
  simp only [el_0_1]
theorem el_0_0 : ∀ (m : Nat) (l : Int32) (v : Nat → Int32) (f : Nat → Nat → Int32), gsX_X6_expression_1_L6 NF m l v f = xmCh NF (gsX_X6_expression_2 NF) (nI 0) 1600 m l v f := by
  intro m
  induction m with
  | zero => intro l v f; rfl
  | succ m ih =>
    intro l v f
    simp only [gsX_X6_expression_1_L6, xmCh, ih]
    all_goals rfl
theorem e_0_0 : gsX_X6_expression_1 NF = xmLv NF (gsX_X6_expression_2 NF) (nI 0) 1600 := by
  funext v f
  unfold gsX_X6_expression_1 xmLv
  simp only [el_0_0]
section
variable {c : Nat → Nat} {n : Nat} {v0 : Nat → Int32} {f0 : Nat → Nat → Int32}
theorem s_7 (T : TX c n v0 f0) (hc : ∀ k, k < n → c k < 256) : SIM c n v0 f0 7 0 (gsX_X6_expression_43 NF) ∧ SIM c n v0 f0 7 2 (gsX_X6_expression_45 NF) := by
  have h5 : SIM c n v0 f0 7 5 (gsX_X6_expression_48 NF) := by rw [e_7_5, u_7]; exact SIMb (simUn T hc (by decide) (simBr7 hc))
  have h4 : SIM c n v0 f0 7 4 (gsX_X6_expression_47 NF) := by rw [e_7_4]; exact simLv T hc (by decide) (by decide) (by decide) h5
  have h3 : SIM c n v0 f0 7 3 (gsX_X6_expression_46 NF) := by rw [e_7_3]; exact simLv T hc (by decide) (by decide) (by decide) h4
  have h2 : SIM c n v0 f0 7 2 (gsX_X6_expression_45 NF) := by rw [e_7_2, ng_7]; exact simOne T hc h3 (fun v f i out st own hx hd hm h ho hb => Or.inr (simNeg7 hc hx hd hm h))
  have h1 : SIM c n v0 f0 7 1 (gsX_X6_expression_44 NF) := by rw [e_7_1]; exact simLv T hc (by decide) (by decide) (by decide) h2
  exact ⟨by rw [e_7_0]; exact simLv T hc (by decide) (by decide) (by decide) h1, h2⟩
theorem s_6 (T : TX c n v0 f0) (hc : ∀ k, k < n → c k < 256) (h0 : SIM c n v0 f0 7 0 (gsX_X6_expression_43 NF)) (h2 : SIM c n v0 f0 7 2 (gsX_X6_expression_45 NF)) : SIM c n v0 f0 6 0 (gsX_X6_expression_37 NF) ∧ SIM c n v0 f0 6 2 (gsX_X6_expression_39 NF) := by
  have h5 : SIM c n v0 f0 6 5 (gsX_X6_expression_42 NF) := by rw [e_6_5, u_6]; exact SIMb (simUn T hc (by decide) (simBra T hc (by decide) h0))
  have h4 : SIM c n v0 f0 6 4 (gsX_X6_expression_41 NF) := by rw [e_6_4]; exact simLv T hc (by decide) (by decide) (by decide) h5
  have h3 : SIM c n v0 f0 6 3 (gsX_X6_expression_40 NF) := by rw [e_6_3]; exact simLv T hc (by decide) (by decide) (by decide) h4
  have h2n : SIM c n v0 f0 6 2 (gsX_X6_expression_39 NF) := by rw [e_6_2, ng_6]; exact simOne T hc h3 (fun v f i out st own hx hd hm h ho hb => simNeg T hc (by decide) h2 hx hd hm h ho hb)
  have h1 : SIM c n v0 f0 6 1 (gsX_X6_expression_38 NF) := by rw [e_6_1]; exact simLv T hc (by decide) (by decide) (by decide) h2n
  exact ⟨by rw [e_6_0]; exact simLv T hc (by decide) (by decide) (by decide) h1, h2n⟩
theorem s_5 (T : TX c n v0 f0) (hc : ∀ k, k < n → c k < 256) (h0 : SIM c n v0 f0 6 0 (gsX_X6_expression_37 NF)) (h2 : SIM c n v0 f0 6 2 (gsX_X6_expression_39 NF)) : SIM c n v0 f0 5 0 (gsX_X6_expression_31 NF) ∧ SIM c n v0 f0 5 2 (gsX_X6_expression_33 NF) := by
  have h5 : SIM c n v0 f0 5 5 (gsX_X6_expression_36 NF) := by rw [e_5_5, u_5]; exact SIMb (simUn T hc (by decide) (simBra T hc (by decide) h0))
  have h4 : SIM c n v0 f0 5 4 (gsX_X6_expression_35 NF) := by rw [e_5_4]; exact simLv T hc (by decide) (by decide) (by decide) h5
  have h3 : SIM c n v0 f0 5 3 (gsX_X6_expression_34 NF) := by rw [e_5_3]; exact simLv T hc (by decide) (by decide) (by decide) h4
  have h2n : SIM c n v0 f0 5 2 (gsX_X6_expression_33 NF) := by rw [e_5_2, ng_5]; exact simOne T hc h3 (fun v f i out st own hx hd hm h ho hb => simNeg T hc (by decide) h2 hx hd hm h ho hb)
  have h1 : SIM c n v0 f0 5 1 (gsX_X6_expression_32 NF) := by rw [e_5_1]; exact simLv T hc (by decide) (by decide) (by decide) h2n
  exact ⟨by rw [e_5_0]; exact simLv T hc (by decide) (by decide) (by decide) h1, h2n⟩
theorem s_4 (T : TX c n v0 f0) (hc : ∀ k, k < n → c k < 256) (h0 : SIM c n v0 f0 5 0 (gsX_X6_expression_31 NF)) (h2 : SIM c n v0 f0 5 2 (gsX_X6_expression_33 NF)) : SIM c n v0 f0 4 0 (gsX_X6_expression_25 NF) ∧ SIM c n v0 f0 4 2 (gsX_X6_expression_27 NF) := by
  have h5 : SIM c n v0 f0 4 5 (gsX_X6_expression_30 NF) := by rw [e_4_5, u_4]; exact SIMb (simUn T hc (by decide) (simBra T hc (by decide) h0))
  have h4 : SIM c n v0 f0 4 4 (gsX_X6_expression_29 NF) := by rw [e_4_4]; exact simLv T hc (by decide) (by decide) (by decide) h5
  have h3 : SIM c n v0 f0 4 3 (gsX_X6_expression_28 NF) := by rw [e_4_3]; exact simLv T hc (by decide) (by decide) (by decide) h4
  have h2n : SIM c n v0 f0 4 2 (gsX_X6_expression_27 NF) := by rw [e_4_2, ng_4]; exact simOne T hc h3 (fun v f i out st own hx hd hm h ho hb => simNeg T hc (by decide) h2 hx hd hm h ho hb)
  have h1 : SIM c n v0 f0 4 1 (gsX_X6_expression_26 NF) := by rw [e_4_1]; exact simLv T hc (by decide) (by decide) (by decide) h2n
  exact ⟨by rw [e_4_0]; exact simLv T hc (by decide) (by decide) (by decide) h1, h2n⟩
theorem s_3 (T : TX c n v0 f0) (hc : ∀ k, k < n → c k < 256) (h0 : SIM c n v0 f0 4 0 (gsX_X6_expression_25 NF)) (h2 : SIM c n v0 f0 4 2 (gsX_X6_expression_27 NF)) : SIM c n v0 f0 3 0 (gsX_X6_expression_19 NF) ∧ SIM c n v0 f0 3 2 (gsX_X6_expression_21 NF) := by
  have h5 : SIM c n v0 f0 3 5 (gsX_X6_expression_24 NF) := by rw [e_3_5, u_3]; exact SIMb (simUn T hc (by decide) (simBra T hc (by decide) h0))
  have h4 : SIM c n v0 f0 3 4 (gsX_X6_expression_23 NF) := by rw [e_3_4]; exact simLv T hc (by decide) (by decide) (by decide) h5
  have h3 : SIM c n v0 f0 3 3 (gsX_X6_expression_22 NF) := by rw [e_3_3]; exact simLv T hc (by decide) (by decide) (by decide) h4
  have h2n : SIM c n v0 f0 3 2 (gsX_X6_expression_21 NF) := by rw [e_3_2, ng_3]; exact simOne T hc h3 (fun v f i out st own hx hd hm h ho hb => simNeg T hc (by decide) h2 hx hd hm h ho hb)
  have h1 : SIM c n v0 f0 3 1 (gsX_X6_expression_20 NF) := by rw [e_3_1]; exact simLv T hc (by decide) (by decide) (by decide) h2n
  exact ⟨by rw [e_3_0]; exact simLv T hc (by decide) (by decide) (by decide) h1, h2n⟩
theorem s_2 (T : TX c n v0 f0) (hc : ∀ k, k < n → c k < 256) (h0 : SIM c n v0 f0 3 0 (gsX_X6_expression_19 NF)) (h2 : SIM c n v0 f0 3 2 (gsX_X6_expression_21 NF)) : SIM c n v0 f0 2 0 (gsX_X6_expression_13 NF) ∧ SIM c n v0 f0 2 2 (gsX_X6_expression_15 NF) := by
  have h5 : SIM c n v0 f0 2 5 (gsX_X6_expression_18 NF) := by rw [e_2_5, u_2]; exact SIMb (simUn T hc (by decide) (simBra T hc (by decide) h0))
  have h4 : SIM c n v0 f0 2 4 (gsX_X6_expression_17 NF) := by rw [e_2_4]; exact simLv T hc (by decide) (by decide) (by decide) h5
  have h3 : SIM c n v0 f0 2 3 (gsX_X6_expression_16 NF) := by rw [e_2_3]; exact simLv T hc (by decide) (by decide) (by decide) h4
  have h2n : SIM c n v0 f0 2 2 (gsX_X6_expression_15 NF) := by rw [e_2_2, ng_2]; exact simOne T hc h3 (fun v f i out st own hx hd hm h ho hb => simNeg T hc (by decide) h2 hx hd hm h ho hb)
  have h1 : SIM c n v0 f0 2 1 (gsX_X6_expression_14 NF) := by rw [e_2_1]; exact simLv T hc (by decide) (by decide) (by decide) h2n
  exact ⟨by rw [e_2_0]; exact simLv T hc (by decide) (by decide) (by decide) h1, h2n⟩
theorem s_1 (T : TX c n v0 f0) (hc : ∀ k, k < n → c k < 256) (h0 : SIM c n v0 f0 2 0 (gsX_X6_expression_13 NF)) (h2 : SIM c n v0 f0 2 2 (gsX_X6_expression_15 NF)) : SIM c n v0 f0 1 0 (gsX_X6_expression_7 NF) ∧ SIM c n v0 f0 1 2 (gsX_X6_expression_9 NF) := by
  have h5 : SIM c n v0 f0 1 5 (gsX_X6_expression_12 NF) := by rw [e_1_5, u_1]; exact SIMb (simUn T hc (by decide) (simBra T hc (by decide) h0))
  have h4 : SIM c n v0 f0 1 4 (gsX_X6_expression_11 NF) := by rw [e_1_4]; exact simLv T hc (by decide) (by decide) (by decide) h5
  have h3 : SIM c n v0 f0 1 3 (gsX_X6_expression_10 NF) := by rw [e_1_3]; exact simLv T hc (by decide) (by decide) (by decide) h4
  have h2n : SIM c n v0 f0 1 2 (gsX_X6_expression_9 NF) := by rw [e_1_2, ng_1]; exact simOne T hc h3 (fun v f i out st own hx hd hm h ho hb => simNeg T hc (by decide) h2 hx hd hm h ho hb)
  have h1 : SIM c n v0 f0 1 1 (gsX_X6_expression_8 NF) := by rw [e_1_1]; exact simLv T hc (by decide) (by decide) (by decide) h2n
  exact ⟨by rw [e_1_0]; exact simLv T hc (by decide) (by decide) (by decide) h1, h2n⟩
theorem s_0 (T : TX c n v0 f0) (hc : ∀ k, k < n → c k < 256) (h0 : SIM c n v0 f0 1 0 (gsX_X6_expression_7 NF)) (h2 : SIM c n v0 f0 1 2 (gsX_X6_expression_9 NF)) : SIM c n v0 f0 0 0 (gsX_X6_expression_1 NF) ∧ SIM c n v0 f0 0 2 (gsX_X6_expression_3 NF) := by
  have h5 : SIM c n v0 f0 0 5 (gsX_X6_expression_6 NF) := by rw [e_0_5, u_0]; exact SIMb (simUn T hc (by decide) (simBra T hc (by decide) h0))
  have h4 : SIM c n v0 f0 0 4 (gsX_X6_expression_5 NF) := by rw [e_0_4]; exact simLv T hc (by decide) (by decide) (by decide) h5
  have h3 : SIM c n v0 f0 0 3 (gsX_X6_expression_4 NF) := by rw [e_0_3]; exact simLv T hc (by decide) (by decide) (by decide) h4
  have h2n : SIM c n v0 f0 0 2 (gsX_X6_expression_3 NF) := by rw [e_0_2, ng_0]; exact simOne T hc h3 (fun v f i out st own hx hd hm h ho hb => simNeg T hc (by decide) h2 hx hd hm h ho hb)
  have h1 : SIM c n v0 f0 0 1 (gsX_X6_expression_2 NF) := by rw [e_0_1]; exact simLv T hc (by decide) (by decide) (by decide) h2n
  exact ⟨by rw [e_0_0]; exact simLv T hc (by decide) (by decide) (by decide) h1, h2n⟩
theorem s_all0 (T : TX c n v0 f0) (hc : ∀ k, k < n → c k < 256) : SIM c n v0 f0 0 0 (gsX_X6_expression_1 NF) := by
  have a7 := s_7 (NF := NF) T hc
  have a6 := s_6 (NF := NF) T hc a7.1 a7.2
  have a5 := s_5 (NF := NF) T hc a6.1 a6.2
  have a4 := s_4 (NF := NF) T hc a5.1 a5.2
  have a3 := s_3 (NF := NF) T hc a4.1 a4.2
  have a2 := s_2 (NF := NF) T hc a3.1 a3.2
  have a1 := s_1 (NF := NF) T hc a2.1 a2.2
  have a0 := s_0 (NF := NF) T hc a1.1 a1.2
  exact a0.1
end
end
end
section
section
variable {NF : Nat}
def eS (k : Nat) : Nat := if k = 115 then 21 else if k = 40 then 20 else if k = 114 then 38 else if k = 113 then 124 else k
def eA (k : Nat) : Nat := if k = 2 then 0 else if 116 ≤ k ∧ k ≤ 121 then 1 else if k = 115 then 2 else 3
def eB (k : Nat) (x : Int32) : Int32 := if k = 2 then x else if 116 ≤ k ∧ k ≤ 121 then nI (k - 116) else if k = 115 then 0 else nI (eS k)
def vS (a : Nat) : Bool := a == 115 || a == 40 || fSg a
theorem vS_f : ∀ a, a < 256 → vS a = true → (eS a = 20 ↔ a = 40) ∧ (eS a = 21 ↔ a = 115) ∧ eS a < 256 ∧ (a ≠ 40 → gsY_X11_tight_1 0 (nI (eS a)) zV zVV 0 (fun _ => 0) = nI (fTg a)) := by decide +kernel
theorem vS_lt {a : Nat} (h : vS a = true) : a < 256 := by
  by_cases e : a < 256
  · exact e
  · exfalso
    simp [vS, fSg] at h
    omega
theorem yTight {a : Nat} {v : Nat → Int32} {f : Nat → Nat → Int32} {w : Int64} {g : Nat → Int64} (h : vS a = true) (h40 : a ≠ 40) : gsY_X11_tight_1 NF (nI (eS a)) v f w g = nI (fTg a) := (show gsY_X11_tight_1 NF (nI (eS a)) v f w g = gsY_X11_tight_1 0 (nI (eS a)) zV zVV 0 (fun _ => 0) from rfl).trans ((vS_f a (vS_lt h) h).2.2.2 h40)
theorem fTg_lt (a : Nat) : fTg a ≤ 6 := by
  unfold fTg
  repeat' split
  all_goals omega
def STY : List Nat → (Nat → Nat → Int32) → Prop
  | [], _ => True
  | a :: l, f => f 6 l.length = nI (eS a) ∧ vS a = true ∧ STY l f
theorem STY.of {f f' : Nat → Nat → Int32} : ∀ {st : List Nat}, STY st f → (∀ j, j < st.length → f' 6 j = f 6 j) → STY st f' := by
  intro st
  induction st with
  | nil => intro _ _; trivial
  | cons a l ih =>
    intro h hf
    exact ⟨(hf l.length (by simp)).trans h.1, h.2.1, ih h.2.2 (fun j hj => hf j (by simp; omega))⟩
def OUTY (out : List (Nat × Int32)) (f : Nat → Nat → Int32) : Prop := ∀ j, j < out.length → f 2 j = nI (eA (out.getD j (0, 0)).1) ∧ f 3 j = eB (out.getD j (0, 0)).1 (out.getD j (0, 0)).2
def YR (c : Nat → Nat) (n : Nat) (v0 : Nat → Int32) (f0 : Nat → Nat → Int32) (v : Nat → Int32) (f : Nat → Nat → Int32) (w : Int64) (i : Nat) (out : List (Nat × Int32)) (st : List Nat) (own : Nat) : Prop := CY c n i v w ∧ (∀ k, k ≠ 3 → k ≠ 5 → k ≠ 6 → k ≠ 7 → k ≠ 8 → k ≠ 10 → k ≠ 11 → k ≠ 13 → k ≠ 14 → v k = v0 k) ∧ (∀ q, q ≠ 2 → q ≠ 3 → q ≠ 6 → f q = f0 q) ∧ v 8 = nI out.length ∧ v 10 = nI st.length ∧ v 11 = nI own ∧ v 13 = nI own ∧ v 14 = nI (fDp st) ∧ OUTY out f ∧ STY st f
def YF (c : Nat → Nat) (n : Nat) (v0 : Nat → Int32) (f0 : Nat → Nat → Int32) (v : Nat → Int32) (f : Nat → Nat → Int32) (s j : Nat) : Prop := v 1 = nI s ∧ v 2 = nI (tk_p c n j) ∧ (∀ k, k ≠ 1 → k ≠ 2 → k ≠ 3 → k ≠ 5 → k ≠ 6 → k ≠ 7 → k ≠ 8 → k ≠ 10 → k ≠ 11 → k ≠ 13 → k ≠ 14 → v k = v0 k) ∧ (∀ q, q ≠ 2 → q ≠ 3 → q ≠ 6 → f q = f0 q)
section
variable {c : Nat → Nat} {n : Nat} {v0 : Nat → Int32} {f0 : Nat → Nat → Int32} {v : Nat → Int32} {f : Nat → Nat → Int32} {w : Int64} {g : Nat → Int64} {i own : Nat} {out : List (Nat × Int32)} {st : List Nat}
theorem YR.f1 (h : YR c n v0 f0 v f w i out st own) (h0 : v0 1 = 0) : v 1 = 0 := (h.2.1 1 (by decide) (by decide) (by decide) (by decide) (by decide) (by decide) (by decide) (by decide) (by decide)).trans h0
theorem YR.t (T : TY c n v0 f0) (h : YR c n v0 f0 v f w i out st own) : TY c n v f := T.of (h.2.1 4 (by decide) (by decide) (by decide) (by decide) (by decide) (by decide) (by decide) (by decide) (by decide)) (h.2.2.1 0 (by decide) (by decide) (by decide))
theorem YR.tok (T : TY c n v0 f0) (h : YR c n v0 f0 v f w i out st own) (h1 : tk_k c n i ≠ 1) : ∃ v' w', gsY_X11_token_1 NF v f w g = (v', f, w', g) ∧ YR c n v0 f0 v' f w' (i + 1) out st own := by
  obtain ⟨v', w', e, a, b⟩ := tokY (NF := NF) (i := i) (w := w) (g := g) (YR.t T h) (h.1.2.2.1 h1)
  obtain ⟨_, h2, h3, h8, h10, h11, h13, h14, h15, h16⟩ := h
  exact ⟨v', w', e, a, fun k k3 k5 k6 k7 k8 k10 k11 k13 k14 => (b k k3 k5 k6 k7).trans (h2 k k3 k5 k6 k7 k8 k10 k11 k13 k14), h3, (b 8 (by decide) (by decide) (by decide) (by decide)).trans h8, (b 10 (by decide) (by decide) (by decide) (by decide)).trans h10, (b 11 (by decide) (by decide) (by decide) (by decide)).trans h11, (b 13 (by decide) (by decide) (by decide) (by decide)).trans h13, (b 14 (by decide) (by decide) (by decide) (by decide)).trans h14, h15, h16⟩
theorem tS3 : ∀ k, k < 256 → (nI (tS k) = 3 ↔ k = 1) := by decide +kernel
theorem YR.wrong (hc : ∀ k, k < n → c k < 256) (h0 : v0 1 = 0) (h : YR c n v0 f0 v f w i out st own) : gsY_X11_wrong_1 NF 2 v f w g = (upd (upd v 1 (nI (fFl (tk_k c n i)))) 2 (nI (tk_p c n i)), f, w, g) := by
  have hk := tk_lt hc i
  simp only [gsY_X11_wrong_1, YR.f1 h h0, h.1.1, h.1.2.1]
  rw [if_pos (show (0 : Int32) ≤ 0 by decide)]
  unfold fFl
  by_cases e : tk_k c n i = 1
  · rw [if_pos ((tS3 _ hk).mpr e), if_pos e]; rfl
  · rw [if_neg (fun z => e ((tS3 _ hk).mp z)), if_neg e]; rfl
theorem YR.add {k : Nat} {x : Int32} {a : Nat} {y : Int32} (ha : a = eA k) (hy : y = eB k x) (hl : out.length < 1000) (h : YR c n v0 f0 v f w i out st own) : ∃ v' f', gsY_X11_add_1 NF (nI a) y v f w g = (v', f', w, g) ∧ YR c n v0 f0 v' f' w i (out ++ [(k, x)]) st own ∧ (∀ j, j ≠ 8 → v' j = v j) ∧ f' 6 = f 6 := by
  subst ha hy
  obtain ⟨⟨c1, c2, c3, c4, c5⟩, h2, h3, h8, h10, h11, h13, h14, h15, h16⟩ := h
  refine ⟨upd v 8 (nI (out.length + 1)), upd2 (upd2 f 2 (upd (f 2) out.length (nI (eA k)))) 3 (upd (f 3) out.length (eB k x)), ?_, ⟨⟨(pk_un (by decide)).trans c1, (pk_un (by decide)).trans c2, fun z => (pk_un (by decide)).trans (c3 z), fun z => (pk_un (by decide)).trans (c4 z), c5⟩, fun k k3 k5 k6 k7 k8 k10 k11 k13 k14 => (pk_un k8).trans (h2 k k3 k5 k6 k7 k8 k10 k11 k13 k14), fun q q2 q3 q6 => ?_, by rw [pk_us]; simp, (pk_un (by decide)).trans h10, (pk_un (by decide)).trans h11, (pk_un (by decide)).trans h13, (pk_un (by decide)).trans h14, fun j hj => ?_, STY.of h16 (fun j _ => rfl)⟩, fun j hj => pk_un hj, rfl⟩
  · simp only [gsY_X11_add_1, h8]
    rw [nI_clamp (by omega), nI_1]
    rfl
  · show (if q = 3 then _ else if q = 2 then _ else f q) = f0 q
    rw [if_neg q3, if_neg q2]; exact h3 q q2 q3 q6
  · rw [getD_snoc]
    show upd (f 2) out.length (nI (eA k)) j = _ ∧ upd (f 3) out.length (eB k x) j = _
    by_cases e : j < out.length
    · rw [if_pos e, pk_un (by omega), pk_un (by omega)]; exact h15 j e
    · have e2 : j = out.length := by simp at hj; omega
      rw [if_neg e, if_pos e2, e2, pk_us, pk_us]
      exact ⟨rfl, rfl⟩
theorem eAB_sg : ∀ a, a < 256 → fSg a = true → eA a = 3 ∧ a ≠ 40 ∧ a ≠ 115 ∧ eB a 0 = nI (eS a) := by decide +kernel
theorem STY.lt : ∀ {st : List Nat} {f : Nat → Nat → Int32}, STY st f → ∀ a, a ∈ st → vS a = true := by
  intro st
  induction st with
  | nil => intro f _ a ha; exact absurd ha (by simp)
  | cons b l ih =>
    intro f h a ha
    rcases List.mem_cons.mp ha with e | e
    · rw [e]; exact h.2.1
    · exact ih h.2.2 a e
theorem YR.close {t : Nat} (ht : t ≤ 6) : ∀ (st : List Nat) (fu : Nat) (v : Nat → Int32) (f : Nat → Nat → Int32) (out : List (Nat × Int32)), YR c n v0 f0 v f w i out st own → st.length < fu → out.length + st.length < 1000 → ∃ v' f', gsY_X11_close_1_L1 NF (nI t) fu v f w g = (v', f', w, g) ∧ YR c n v0 f0 v' f' w i (fCls t out st).1 (fCls t out st).2 own := by
  intro st
  induction st with
  | nil =>
    intro fu v f out h hf _
    obtain ⟨fu, rfl⟩ : ∃ q, fu = q + 1 := ⟨fu - 1, by omega⟩
    refine ⟨v, f, ?_, h⟩
    have h10 : v 10 = 0 := h.2.2.2.2.1
    simp only [gsY_X11_close_1_L1, h10]
    rw [if_pos (show (0 : Int32) ≤ 0 by decide)]
  | cons a l ih =>
    intro fu v f out h hf hb
    obtain ⟨fu, rfl⟩ : ∃ q, fu = q + 1 := ⟨fu - 1, by omega⟩
    rw [List.length_cons] at hf hb
    have h10 : v 10 = nI (l.length + 1) := h.2.2.2.2.1
    obtain ⟨s1, s2, s3⟩ := h.2.2.2.2.2.2.2.2.2
    have ha := vS_lt s2
    obtain ⟨q20, q21, qlt, _⟩ := vS_f a ha s2
    have hcl : fCls t out (a :: l) = if a = 40 ∨ fTg a < t then (out, a :: l) else fCls t (out ++ [(a, 0)]) l := rfl
    simp only [gsY_X11_close_1_L1, h10, nI_pred]
    rw [if_neg (nI_nle (by omega) (by omega)), nI_clamp (by omega), s1]
    by_cases e40 : a = 40
    · rw [if_pos (by rw [q20.mpr e40]; rfl), hcl, if_pos (Or.inl e40)]
      exact ⟨v, f, rfl, h⟩
    · rw [if_neg (nlit 20 20 rfl (by omega) (by decide) (fun z => e40 (q20.mp z))), yTight s2 e40]
      have h6 := fTg_lt a
      by_cases el : fTg a < t
      · rw [if_pos (nI_lt el (by omega)), hcl, if_pos (Or.inr el)]
        exact ⟨v, f, rfl, h⟩
      · rw [if_neg (nI_nlt (by omega) (by omega)), hcl, if_neg (show ¬ (a = 40 ∨ fTg a < t) from fun z => z.elim e40 el)]
        obtain ⟨⟨c1, c2, c3, c4, c5⟩, h2, h3, h8, _, h11, h13, h14, h15, _⟩ := h
        by_cases e115 : a = 115
        · have x1 : YR c n v0 f0 (upd (upd v 10 (nI l.length)) 14 (nI (fDp l))) f w i out l own := ⟨⟨(pk_un (by decide)).trans ((pk_un (by decide)).trans c1), (pk_un (by decide)).trans ((pk_un (by decide)).trans c2), fun z => (pk_un (by decide)).trans ((pk_un (by decide)).trans (c3 z)), fun z => (pk_un (by decide)).trans ((pk_un (by decide)).trans (c4 z)), c5⟩, fun k k3 k5 k6 k7 k8 k10 k11 k13 k14 => (pk_un k14).trans ((pk_un k10).trans (h2 k k3 k5 k6 k7 k8 k10 k11 k13 k14)), h3, (pk_un (by decide)).trans ((pk_un (by decide)).trans h8), (pk_un (by decide)).trans pk_us, (pk_un (by decide)).trans ((pk_un (by decide)).trans h11), (pk_un (by decide)).trans ((pk_un (by decide)).trans h13), pk_us, h15, s3⟩
          have d1 : fDp (a :: l) = fDp l + 1 := by show (if a = 115 ∨ a = 40 then 1 else 0) + fDp l = _; rw [if_pos (Or.inl e115)]; omega
          rw [if_pos (by rw [q21.mpr e115]; rfl), h14, d1]
          have hadd : gsY_X11_add_1 NF 2 0 (upd v 10 (nI l.length)) f w g = (upd (upd v 10 (nI l.length)) 8 (nI (out.length + 1)), upd2 (upd2 f 2 (upd (f 2) out.length 2)) 3 (upd (f 3) out.length 0), w, g) := by
            simp only [gsY_X11_add_1]
            rw [pk_un (show (8 : Nat) ≠ 10 by decide), h8, nI_clamp (by omega), nI_1]
            rfl
          have x2 : YR c n v0 f0 (upd (upd (upd v 10 (nI l.length)) 8 (nI (out.length + 1))) 14 (nI (fDp l))) (upd2 (upd2 f 2 (upd (f 2) out.length 2)) 3 (upd (f 3) out.length 0)) w i (out ++ [(115, 0)]) l own := by
            obtain ⟨v', f', e, y, _, _⟩ := YR.add (NF := NF) (g := g) (k := 115) (x := 0) (a := 2) (y := 0) rfl rfl (by omega) x1
            have e' : gsY_X11_add_1 NF (nI 2) 0 (upd (upd v 10 (nI l.length)) 14 (nI (fDp l))) f w g = (upd (upd (upd v 10 (nI l.length)) 14 (nI (fDp l))) 8 (nI (out.length + 1)), upd2 (upd2 f 2 (upd (f 2) out.length 2)) 3 (upd (f 3) out.length 0), w, g) := by
              simp only [gsY_X11_add_1]
              rw [pk_un (show (8 : Nat) ≠ 14 by decide), pk_un (show (8 : Nat) ≠ 10 by decide), h8, nI_clamp (by omega), nI_1]
              rfl
            have := e.symm.trans e'
            injection this with a1 a2
            injection a2 with a2 a3
            rw [a1, a2] at y
            rw [show upd (upd (upd v 10 (nI l.length)) 8 (nI (out.length + 1))) 14 (nI (fDp l)) = upd (upd (upd v 10 (nI l.length)) 14 (nI (fDp l))) 8 (nI (out.length + 1)) from upd_comm (by decide)]
            exact y
          rw [show nI (fDp l + 1) - 1 = nI (fDp l) from nI_pred _, hadd, e115]
          exact ih fu _ _ _ x2 (by omega) (by rw [List.length_append, List.length_singleton]; omega)
        · have hsg : fSg a = true := by
            simp only [vS, Bool.or_eq_true, beq_iff_eq] at s2
            exact s2.resolve_left (fun z => z.elim e115 e40)
          obtain ⟨g1, _, _, g4⟩ := eAB_sg a ha hsg
          have x1 : YR c n v0 f0 (upd v 10 (nI l.length)) f w i out l own := ⟨⟨(pk_un (by decide)).trans c1, (pk_un (by decide)).trans c2, fun z => (pk_un (by decide)).trans (c3 z), fun z => (pk_un (by decide)).trans (c4 z), c5⟩, fun k k3 k5 k6 k7 k8 k10 k11 k13 k14 => (pk_un k10).trans (h2 k k3 k5 k6 k7 k8 k10 k11 k13 k14), h3, (pk_un (by decide)).trans h8, pk_us, (pk_un (by decide)).trans h11, (pk_un (by decide)).trans h13, (pk_un (by decide)).trans (by rw [h14]; show nI ((if a = 115 ∨ a = 40 then 1 else 0) + fDp l) = _; rw [if_neg (fun z => z.elim e115 e40), Nat.zero_add]), h15, s3⟩
          obtain ⟨v', f', e, y, _, _⟩ := YR.add (NF := NF) (g := g) (k := a) (x := 0) (a := 3) (y := nI (eS a)) g1.symm g4.symm (by omega) x1
          have e : gsY_X11_add_1 NF 3 (nI (eS a)) (upd v 10 (nI l.length)) f w g = (v', f', w, g) := e
          rw [if_neg (nlit 21 21 rfl (by omega) (by decide) (fun z => e115 (q21.mp z))), e]
          exact ih fu v' f' _ y (by omega) (by rw [List.length_append, List.length_singleton]; omega)
end
end
end
section
section
variable {NF : Nat}
section
variable {c : Nat → Nat} {n : Nat} {v0 : Nat → Int32} {f0 : Nat → Nat → Int32} {v : Nat → Int32} {f : Nat → Nat → Int32} {w : Int64} {g : Nat → Int64} {i own : Nat} {out : List (Nat × Int32)}
theorem yHasR_L : ∀ (l : List Nat) (a fu : Nat), STY (a :: l) f → l.length < 1000 → l.length < fu → gsY_X11_hasRelation_1_L3 NF v f w g fu (nI l.length) = if fHasR (a :: l) = true then 1 else 0 := by
  intro l
  induction l with
  | nil =>
    intro a fu h _ hf
    obtain ⟨fu, rfl⟩ : ∃ q, fu = q + 1 := ⟨fu - 1, by omega⟩
    obtain ⟨s1, s2, s3⟩ := h
    obtain ⟨q20, q21, qlt, _⟩ := vS_f a (vS_lt s2) s2
    have h6 := fTg_lt a
    have s1 : f 6 0 = nI (eS a) := s1
    have hn : ¬ nI ([] : List Nat).length < 0 := nI_pos (by decide)
    have hr : fHasR [a] = if a = 40 then false else if 4 < fTg a then false else decide (fTg a = 4) := rfl
    simp only [gsY_X11_hasRelation_1_L3, if_neg hn]
    rw [show (nI ([] : List Nat).length).toNatClampNeg = 0 from nI_clamp (by decide), s1, hr]
    by_cases e40 : a = 40
    · rw [if_pos (by rw [q20.mpr e40]; rfl), if_pos (by rw [q20.mpr e40]; rfl), if_pos e40]; rfl
    · rw [if_neg (nlit 20 20 rfl (by omega) (by decide) (fun z => e40 (q20.mp z))), yTight s2 e40, if_neg e40]
      by_cases e4 : 4 < fTg a
      · rw [if_neg (show ¬ nI (fTg a) ≤ (4 : Int32) from nI_ge (a := 4) e4 (by omega)), if_pos e4]
        obtain ⟨fu, rfl⟩ | e0 : (∃ q, fu = q + 1) ∨ fu = 0 := by rcases fu with _ | q; exact Or.inr rfl; exact Or.inl ⟨q, rfl⟩
        · simp only [gsY_X11_hasRelation_1_L3]
          rw [if_pos (show nI ([] : List Nat).length + (-1) < 0 by decide), if_pos (show nI ([] : List Nat).length + (-1) < 0 by decide)]
          rfl
        · subst e0; rfl
      · rw [if_pos (show nI (fTg a) ≤ (4 : Int32) from nI_le (b := 4) (by omega) (by omega)), if_neg (nlit 20 20 rfl (by omega) (by decide) (fun z => e40 (q20.mp z))), if_neg e4]
        by_cases e5 : fTg a = 4
        · rw [if_pos (by rw [e5]; rfl), if_pos (decide_eq_true e5)]
        · rw [if_neg (nlit 4 4 rfl (by omega) (by decide) e5), if_neg (by rw [decide_eq_false e5]; decide)]
  | cons b l ih =>
    intro a fu h hb hf
    obtain ⟨fu, rfl⟩ : ∃ q, fu = q + 1 := ⟨fu - 1, by omega⟩
    rw [List.length_cons] at hb hf
    obtain ⟨s1, s2, s3⟩ := h
    obtain ⟨q20, q21, qlt, _⟩ := vS_f a (vS_lt s2) s2
    have h6 := fTg_lt a
    have s1 : f 6 (l.length + 1) = nI (eS a) := s1
    have hn : ¬ nI (l.length + 1) < 0 := nI_pos (by omega)
    have hr : fHasR (a :: b :: l) = if a = 40 then false else if 4 < fTg a then fHasR (b :: l) else decide (fTg a = 4) := rfl
    rw [List.length_cons]
    simp only [gsY_X11_hasRelation_1_L3, if_neg hn]
    rw [nI_clamp (by omega), s1, hr]
    by_cases e40 : a = 40
    · rw [if_pos (by rw [q20.mpr e40]; rfl), if_pos (by rw [q20.mpr e40]; rfl), if_pos e40]; rfl
    · rw [if_neg (nlit 20 20 rfl (by omega) (by decide) (fun z => e40 (q20.mp z))), yTight s2 e40, if_neg e40]
      by_cases e4 : 4 < fTg a
      · rw [if_neg (show ¬ nI (fTg a) ≤ (4 : Int32) from nI_ge (a := 4) e4 (by omega)), if_pos e4, pk_m1]
        exact ih b fu s3 (by omega) (by omega)
      · rw [if_pos (show nI (fTg a) ≤ (4 : Int32) from nI_le (b := 4) (by omega) (by omega)), if_neg (nlit 20 20 rfl (by omega) (by decide) (fun z => e40 (q20.mp z))), if_neg e4]
        by_cases e5 : fTg a = 4
        · rw [if_pos (by rw [e5]; rfl), if_pos (decide_eq_true e5)]
        · rw [if_neg (nlit 4 4 rfl (by omega) (by decide) e5), if_neg (by rw [decide_eq_false e5]; decide)]
theorem yHasR {st : List Nat} (h : STY st f) (h10 : v 10 = nI st.length) (hb : st.length < 1000) : gsY_X11_hasRelation_1 NF v f w g = if fHasR st = true then 1 else 0 := by
  simp only [gsY_X11_hasRelation_1, h10]
  match st, h, hb with
  | [], _, _ =>
    obtain ⟨M, hM⟩ : ∃ M, 4294967296 + NF = M + 1 := ⟨4294967295 + NF, by omega⟩
    rw [hM, gsY_X11_hasRelation_1_L3]
    rw [if_pos (show nI ([] : List Nat).length - 1 < 0 by decide), if_pos (show nI ([] : List Nat).length - 1 < 0 by decide)]
    rfl
  | a :: l, h, hb =>
    rw [List.length_cons] at hb
    rw [List.length_cons, nI_pred]
    exact yHasR_L l a (4294967296 + NF) h (by omega) (by omega)
theorem yMay {st : List Nat} (h : STY st f) (h10 : v 10 = nI st.length) (hb : st.length < 1000) : gsY_X11_mayNot_1 NF v f w g = if fMay st = true then 1 else 0 := by
  simp only [gsY_X11_mayNot_1, h10]
  match st, h, hb with
  | [], _, _ => rw [if_pos (show nI ([] : List Nat).length = 0 from rfl)]; rfl
  | a :: l, h, hb =>
    rw [List.length_cons] at hb
    obtain ⟨s1, s2, s3⟩ := h
    obtain ⟨q20, q21, qlt, _⟩ := vS_f a (vS_lt s2) s2
    have h6 := fTg_lt a
    rw [List.length_cons, if_neg (nI_ne0 (by omega) (by omega)), nI_pred, nI_clamp (by omega), s1]
    have hm : fMay (a :: l) = (a == 40 || decide (fTg a < 4)) := rfl
    rw [hm]
    by_cases e40 : a = 40
    · rw [if_pos (by rw [q20.mpr e40]; rfl), if_pos (by rw [e40]; rfl)]
    · rw [if_neg (nlit 20 20 rfl (by omega) (by decide) (fun z => e40 (q20.mp z))), yTight s2 e40, beq_false_of_ne e40, Bool.false_or]
      by_cases e4 : fTg a < 4
      · rw [if_neg (show ¬ (4 : Int32) ≤ nI (fTg a) from nI_ge (b := 4) e4 (by omega)), if_pos (decide_eq_true e4)]
      · rw [if_pos (show (4 : Int32) ≤ nI (fTg a) from nI_le (a := 4) (by omega) (by omega)), if_neg (by rw [decide_eq_false e4]; decide)]
theorem yHasB_L {len : Nat} (h10 : v 10 = nI len) (hb : len < 1000) : ∀ (fu k : Nat) (b : Int32), (b = 0 ∨ b = 1) → k ≤ len → len - k < fu → ((b = 1 ∨ ∃ j, k ≤ j ∧ j < len ∧ f 6 j = 20) → gsY_X11_hasBracket_1_L1 NF v f fu b (nI k) = 1) ∧ (¬ (b = 1 ∨ ∃ j, k ≤ j ∧ j < len ∧ f 6 j = 20) → gsY_X11_hasBracket_1_L1 NF v f fu b (nI k) = 0) := by
  intro fu
  induction fu with
  | zero => intro k b _ _ h; exact absurd h (Nat.not_lt_zero _)
  | succ fu ih =>
    intro k b hb01 hk hf
    simp only [gsY_X11_hasBracket_1_L1, h10, nI_1]
    by_cases hlt : k < len
    · rw [if_neg (nI_ge hlt (by omega)), nI_clamp (by omega)]
      rcases hb01 with rfl | rfl
      · rw [if_pos rfl]
        by_cases e : f 6 k = 20
        · rw [if_pos e]
          obtain ⟨a1, a2⟩ := ih (k + 1) 1 (Or.inr rfl) (by omega) (by omega)
          exact ⟨fun _ => a1 (Or.inl rfl), fun z => absurd (Or.inr ⟨k, Nat.le_refl _, hlt, e⟩) z⟩
        · rw [if_neg e]
          obtain ⟨a1, a2⟩ := ih (k + 1) 0 (Or.inl rfl) (by omega) (by omega)
          have hiff : ((0 : Int32) = 1 ∨ ∃ j, k ≤ j ∧ j < len ∧ f 6 j = 20) ↔ ((0 : Int32) = 1 ∨ ∃ j, k + 1 ≤ j ∧ j < len ∧ f 6 j = 20) := by
            constructor
            · rintro (h | ⟨j, h1, h2, h3⟩)
              · exact Or.inl h
              · refine Or.inr ⟨j, ?_, h2, h3⟩
                by_cases q : j = k
                · rw [q] at h3; exact absurd h3 e
                · omega
            · rintro (h | ⟨j, h1, h2, h3⟩)
              · exact Or.inl h
              · exact Or.inr ⟨j, by omega, h2, h3⟩
          rw [hiff]
          exact ⟨a1, a2⟩
      · rw [if_neg (show ¬ (1 : Int32) = 0 by decide)]
        obtain ⟨a1, a2⟩ := ih (k + 1) 1 (Or.inr rfl) (by omega) (by omega)
        exact ⟨fun _ => a1 (Or.inl rfl), fun z => absurd (Or.inl rfl) z⟩
    · rw [if_pos (nI_le (by omega) (by omega))]
      refine ⟨fun h => ?_, fun h => ?_⟩
      · rcases h with h | ⟨j, h1, h2, _⟩
        · exact h
        · omega
      · rcases hb01 with h1 | h1
        · exact h1
        · exact absurd (Or.inl h1) h
theorem sty_20 : ∀ {st : List Nat}, STY st f → (fHasB st = true ↔ ∃ j, 0 ≤ j ∧ j < st.length ∧ f 6 j = 20) := by
  intro st
  induction st with
  | nil => intro _; exact ⟨fun h => absurd h (by decide), fun ⟨j, _, h, _⟩ => absurd h (by simp)⟩
  | cons a l ih =>
    intro h
    obtain ⟨s1, s2, s3⟩ := h
    obtain ⟨q20, q21, qlt, _⟩ := vS_f a (vS_lt s2) s2
    have hh : fHasB (a :: l) = true ↔ (a = 40 ∨ fHasB l = true) := by
      simp only [fHasB, List.contains_eq_mem, List.mem_cons, decide_eq_true_eq]
      constructor
      · rintro (h | h)
        · exact Or.inl h.symm
        · exact Or.inr h
      · rintro (h | h)
        · exact Or.inl h.symm
        · exact Or.inr h
    rw [hh, ih s3, List.length_cons]
    constructor
    · rintro (h | ⟨j, _, h1, h2⟩)
      · exact ⟨l.length, Nat.zero_le _, by omega, by rw [s1, q20.mpr h]; rfl⟩
      · exact ⟨j, Nat.zero_le _, by omega, h2⟩
    · rintro ⟨j, _, h1, h2⟩
      by_cases e : j = l.length
      · rw [e, s1] at h2
        exact Or.inl (q20.mp ((nI_eq (b := 20) (by omega) (by omega)).mp h2))
      · exact Or.inr ⟨j, Nat.zero_le _, by omega, h2⟩
theorem yHasB {st : List Nat} (h : STY st f) (h10 : v 10 = nI st.length) (hb : st.length < 1000) : gsY_X11_hasBracket_1 NF v f w g = if fHasB st = true then 1 else 0 := by
  unfold gsY_X11_hasBracket_1
  obtain ⟨a1, a2⟩ := yHasB_L (f := f) h10 hb (4294967296 + NF) 0 0 (Or.inl rfl) (Nat.zero_le _) (by omega)
  have hs := sty_20 h
  by_cases e : fHasB st = true
  · rw [if_pos e]; exact a1 (Or.inr (hs.mp e))
  · rw [if_neg e]
    refine a2 (fun z => ?_)
    rcases z with z | z
    · exact absurd z (by decide)
    · exact e (hs.mpr z)
theorem tSsg : ∀ k, k < 256 → k ≠ 113 → k ≠ 114 → ((if nI (tS k) = 60 then nI (tS k) else if nI (tS k) = 62 then nI (tS k) else if nI (tS k) = 61 then nI (tS k) else if nI (tS k) = 43 then nI (tS k) else if nI (tS k) = 45 then nI (tS k) else if nI (tS k) = 42 then nI (tS k) else if nI (tS k) = 47 then nI (tS k) else if nI (tS k) = 37 then nI (tS k) else 0) = if fSg k = true then nI (eS k) else 0) := by decide +kernel
theorem ySign (hc : ∀ k, k < n → c k < 256) (C : CY c n i v w) : gsY_X11_sign_1 NF v f w g = if fSg (tk_k c n i) = true then nI (eS (tk_k c n i)) else 0 := by
  have hk := tk_lt hc i
  unfold gsY_X11_sign_1
  rw [yIsW hc C (k := 114) (by decide) (by decide) (by decide +kernel), yIsW hc C (k := 113) (by decide) (by decide) (by decide +kernel)]
  by_cases e1 : tk_k c n i = 114
  · rw [if_pos e1, ite11, e1]; rfl
  · rw [if_neg e1, ite01]
    by_cases e2 : tk_k c n i = 113
    · rw [if_pos e2, ite11, e2]; rfl
    · rw [if_neg e2, ite01, C.2.1]
      exact tSsg _ hk e2 e1
theorem tS1 : ∀ k, k < 256 → (nI (tS k) = 1 ↔ tS k = 1) ∧ (tS k = 1 ↔ (k = 3 ∨ 101 ≤ k)) := by decide +kernel
theorem yAsked (hc : ∀ k, k < n → c k < 256) (C : CY c n i v w) : gsY_X11_asked_1 NF v f w g = if 116 ≤ tk_k c n i ∧ tk_k c n i ≤ 121 then nI (tk_k c n i - 116) else -1 := by
  have hk := tk_lt hc i
  obtain ⟨t1, t2⟩ := tS1 _ hk
  simp only [gsY_X11_asked_1, C.2.1]
  by_cases h : tS (tk_k c n i) = 1
  · rw [if_pos (t1.mpr h), C.2.2.2.2 h]
    have hW : ∀ k, 101 ≤ k → k ≤ 121 → ∀ j : Int64, j = wC k → (lg_cmp (tk_w c n i) j = 0 ↔ tk_k c n i = k) := fun k h1 h2 j hj => by rw [lgc, hj]; exact tok_W hc h h1 h2
    have w0 := hW 116 (by decide) (by decide) 499984590964 (by decide +kernel)
    have w1 := hW 117 (by decide) (by decide) 465726042981 (by decide +kernel)
    have w2 := hW 118 (by decide) (by decide) 495673373300 (by decide +kernel)
    have w3 := hW 119 (by decide) (by decide) 1819242087 (by decide +kernel)
    have w4 := hW 120 (by decide) (by decide) 2003792494 (by decide +kernel)
    have w5 := hW 121 (by decide) (by decide) 6578553 (by decide +kernel)
    by_cases e0 : tk_k c n i = 116
    · rw [if_pos (w0.mpr e0), e0]; rfl
    · rw [if_neg (fun z => e0 (w0.mp z))]
      by_cases e1 : tk_k c n i = 117
      · rw [if_pos (w1.mpr e1), e1]; rfl
      · rw [if_neg (fun z => e1 (w1.mp z))]
        by_cases e2 : tk_k c n i = 118
        · rw [if_pos (w2.mpr e2), e2]; rfl
        · rw [if_neg (fun z => e2 (w2.mp z))]
          by_cases e3 : tk_k c n i = 119
          · rw [if_pos (w3.mpr e3), e3]; rfl
          · rw [if_neg (fun z => e3 (w3.mp z))]
            by_cases e4 : tk_k c n i = 120
            · rw [if_pos (w4.mpr e4), e4]; rfl
            · rw [if_neg (fun z => e4 (w4.mp z))]
              by_cases e5 : tk_k c n i = 121
              · rw [if_pos (w5.mpr e5), e5]; rfl
              · rw [if_neg (fun z => e5 (w5.mp z)), if_neg (by omega)]
  · rw [if_neg (fun z => h (t1.mp z)), if_neg (fun z => h (t2.mpr (Or.inr (by omega))))]
end
end
end
section
section
variable {NF : Nat}
section
variable {c : Nat → Nat} {n : Nat} {v0 : Nat → Int32} {f0 : Nat → Nat → Int32} {g : Nat → Int64}
theorem YR.count {v : Nat → Int32} {f : Nat → Nat → Int32} {w : Int64} {i own : Nat} {out : List (Nat × Int32)} {st : List Nat} (h : YR c n v0 f0 v f w i out st own) : ∃ v', gsY_X11_countUnit_1 NF v f w g = (v', f, w, g) ∧ YR c n v0 f0 v' f w i out st (own + 1) := by
  obtain ⟨⟨c1, c2, c3, c4, c5⟩, h2, h3, h8, h10, h11, h13, h14, h15, h16⟩ := h
  refine ⟨upd (upd v 11 (nI (own + 1))) 13 (nI (own + 1)), ?_, ⟨(pk_un (by decide)).trans ((pk_un (by decide)).trans c1), (pk_un (by decide)).trans ((pk_un (by decide)).trans c2), fun z => (pk_un (by decide)).trans ((pk_un (by decide)).trans (c3 z)), fun z => (pk_un (by decide)).trans ((pk_un (by decide)).trans (c4 z)), c5⟩, fun k k3 k5 k6 k7 k8 k10 k11 k13 k14 => (pk_un k13).trans ((pk_un k11).trans (h2 k k3 k5 k6 k7 k8 k10 k11 k13 k14)), h3, (pk_un (by decide)).trans ((pk_un (by decide)).trans h8), (pk_un (by decide)).trans ((pk_un (by decide)).trans h10), (pk_un (by decide)).trans pk_us, pk_us, (pk_un (by decide)).trans ((pk_un (by decide)).trans h14), h15, h16⟩
  simp only [gsY_X11_countUnit_1, h11, h13, nI_1]
theorem YR.full {v : Nat → Int32} {f : Nat → Nat → Int32} {w : Int64} {i own : Nat} {out : List (Nat × Int32)} {st : List Nat} (h : YR c n v0 f0 v f w i out st own) (ho : own ≤ 30) : gsY_X11_isFull_1 NF v f w g = if own = 30 then 1 else 0 := by
  have h11 : v 11 = nI own := h.2.2.2.2.2.1
  have h13 : v 13 = nI own := h.2.2.2.2.2.2.1
  simp only [gsY_X11_isFull_1, h11, h13]
  rw [if_neg (nlit 60 60 rfl (show own < 2 ^ 31 by omega) (by decide) (by omega))]
  by_cases e : own = 30
  · rw [if_pos e, if_pos (by rw [e]; rfl)]
  · rw [if_neg e, if_neg (nlit 30 30 rfl (by omega) (by decide) e)]
theorem YR.openUp (T : TY c n v0 f0) (h0 : v0 1 = 0) {v : Nat → Int32} {f : Nat → Nat → Int32} {w : Int64} {i own a : Nat} {out : List (Nat × Int32)} {st : List Nat} (h : YR c n v0 f0 v f w i out st own) (ha : a = 115 ∨ a = 40) (h1 : tk_k c n i ≠ 1) (hb : st.length < 1000) : ∃ v' f' w', gsY_X11_openUp_1 NF (nI (eS a)) v f w g = (v', f', w', g) ∧ YR c n v0 f0 v' f' w' (i + 1) out (a :: st) own := by
  have hf1 := YR.f1 h h0
  have hva : vS a = true := by rcases ha with e | e <;> (rw [e]; rfl)
  have x1 : YR c n v0 f0 (upd (upd v 10 (nI (st.length + 1))) 14 (nI (fDp st + 1))) (upd2 f 6 (upd (f 6) st.length (nI (eS a)))) w i out (a :: st) own := by
    obtain ⟨⟨c1, c2, c3, c4, c5⟩, h2, h3, h8, h10, h11, h13, h14, h15, h16⟩ := h
    refine ⟨⟨(pk_un (by decide)).trans ((pk_un (by decide)).trans c1), (pk_un (by decide)).trans ((pk_un (by decide)).trans c2), fun z => (pk_un (by decide)).trans ((pk_un (by decide)).trans (c3 z)), fun z => (pk_un (by decide)).trans ((pk_un (by decide)).trans (c4 z)), c5⟩, fun k k3 k5 k6 k7 k8 k10 k11 k13 k14 => (pk_un k14).trans ((pk_un k10).trans (h2 k k3 k5 k6 k7 k8 k10 k11 k13 k14)), fun q q2 q3 q6 => ?_, (pk_un (by decide)).trans ((pk_un (by decide)).trans h8), (pk_un (by decide)).trans (by rw [pk_us]; rfl), (pk_un (by decide)).trans ((pk_un (by decide)).trans h11), (pk_un (by decide)).trans ((pk_un (by decide)).trans h13), ?_, fun j hj => h15 j hj, ?_, hva, STY.of h16 (fun j hj => ?_)⟩
    · show (if q = 6 then _ else f q) = f0 q
      rw [if_neg q6]; exact h3 q q2 q3 q6
    · rw [pk_us]; show nI (fDp st + 1) = nI ((if a = 115 ∨ a = 40 then 1 else 0) + fDp st); rw [if_pos ha, Nat.add_comm]
    · show upd (f 6) st.length (nI (eS a)) st.length = _; rw [pk_us]
    · show upd (f 6) st.length (nI (eS a)) j = f 6 j; exact pk_un (by omega)
  obtain ⟨v', w', e, y⟩ := YR.tok (NF := NF) (g := g) T x1 h1
  refine ⟨v', _, w', ?_, y⟩
  obtain ⟨_, _, _, _, h10, _, _, h14, _, _⟩ := h
  simp only [gsY_X11_openUp_1, hf1, h10, h14, nI_1, nI_clamp (show st.length < 2 ^ 31 by omega), e]
  exact if_pos trivial
theorem tS40 : ∀ k, k < 256 → (nI (tS k) = 40 ↔ k = 40) ∧ (nI (tS k) = 2 ↔ k = 2) ∧ (nI (tS k) = 41 ↔ k = 41) ∧ (nI (tS k) = 59 ↔ k = 59) ∧ (nI (tS k) = 0 ↔ k = 0) := by decide +kernel
theorem yU_f {v : Nat → Int32} {f : Nat → Nat → Int32} {w : Int64} {l : Int32} {s : Nat} (h1 : v 1 = nI s) (h0 : 0 < s) (hs : s < 100) (fu : Nat) : gsY_X11_unit_1_L1 NF (fu + 1) l v f w g = (v, f, w, g) := by
  simp only [gsY_X11_unit_1_L1, gsY_X11_unit_1_J2, h1]
  rw [if_neg (nI_nle h0 (by omega)), if_neg (nI_ne0 h0 (by omega))]
  split <;> rfl
theorem yOpenF {v : Nat → Int32} {f : Nat → Nat → Int32} {w : Int64} {s : Nat} {p : Int32} (h1 : v 1 = nI s) (h0 : 0 < s) (hs : s < 100) : gsY_X11_openUp_1 NF p v f w g = (upd (upd v 10 (v 10 + 1)) 14 (v 14 + 1), upd2 f 6 (upd (f 6) (v 10).toNatClampNeg p), w, g) := by
  simp only [gsY_X11_openUp_1, h1]
  rw [if_neg (nI_ne0 h0 (by omega))]
theorem YF.o {v : Nat → Int32} {f : Nat → Nat → Int32} {s j : Nat} {x y : Int32} {p : Nat → Int32} (h : YF c n v0 f0 v f s j) : YF c n v0 f0 (upd (upd v 10 x) 14 y) (upd2 f 6 p) s j := by
  obtain ⟨h1, h2, h3, h4⟩ := h
  refine ⟨(pk_un (by decide)).trans ((pk_un (by decide)).trans h1), (pk_un (by decide)).trans ((pk_un (by decide)).trans h2), fun k k1 k2 k3 k5 k6 k7 k8 k10 k11 k13 k14 => (pk_un k14).trans ((pk_un k10).trans (h3 k k1 k2 k3 k5 k6 k7 k8 k10 k11 k13 k14)), fun q q2 q3 q6 => ?_⟩
  show (if q = 6 then p else f q) = f0 q
  rw [if_neg q6]; exact h4 q q2 q3 q6
theorem YF.u {v : Nat → Int32} {f : Nat → Nat → Int32} {s j : Nat} {x y : Int32} (h : YF c n v0 f0 v f s j) : YF c n v0 f0 (upd (upd v 11 x) 13 y) f s j := by
  obtain ⟨h1, h2, h3, h4⟩ := h
  exact ⟨(pk_un (by decide)).trans ((pk_un (by decide)).trans h1), (pk_un (by decide)).trans ((pk_un (by decide)).trans h2), fun k k1 k2 k3 k5 k6 k7 k8 k10 k11 k13 k14 => (pk_un k13).trans ((pk_un k11).trans (h3 k k1 k2 k3 k5 k6 k7 k8 k10 k11 k13 k14)), h4⟩
theorem YR.fail {v : Nat → Int32} {f : Nat → Nat → Int32} {w : Int64} {i own s : Nat} {out : List (Nat × Int32)} {st : List Nat} (h : YR c n v0 f0 v f w i out st own) : YF c n v0 f0 (upd (upd v 1 (nI s)) 2 (nI (tk_p c n i))) f s i := ⟨(pk_un (by decide)).trans pk_us, pk_us, fun k k1 k2 k3 k5 k6 k7 k8 k10 k11 k13 k14 => (pk_un k2).trans ((pk_un k1).trans (h.2.1 k k3 k5 k6 k7 k8 k10 k11 k13 k14)), h.2.2.1⟩
def YOK (c : Nat → Nat) (n : Nat) (v0 : Nat → Int32) (f0 : Nat → Nat → Int32) (g : Nat → Int64) (r : (Nat → Int32) × (Nat → Nat → Int32) × Int64 × (Nat → Int64)) (own : Nat) (st : List Nat) (res : Nat × Nat × List (Nat × Int32) × Nat) : Prop := ∃ (m i' : Nat) (out' : List (Nat × Int32)) (st' : List Nat) (own' : Nat) (v' : Nat → Int32) (f' : Nat → Nat → Int32) (w' : Int64), r = (v', f', w', g) ∧ YR c n v0 f0 v' f' w' i' out' st' own' ∧ sy (tk_k c n) (tk_n c n) m false i' out' st' own' = some res ∧ own < own' ∧ own' ≤ 30 ∧ fDp st' ≤ 7 ∧ st'.length + fDp st = st.length + fDp st' ∧ out'.length + st'.length ≤ 10 * own'
def YBAD (c : Nat → Nat) (n : Nat) (v0 : Nat → Int32) (f0 : Nat → Nat → Int32) (g : Nat → Int64) (r : (Nat → Int32) × (Nat → Nat → Int32) × Int64 × (Nat → Int64)) (res : Nat × Nat × List (Nat × Int32) × Nat) : Prop := ∃ (s j : Nat) (v' : Nat → Int32) (f' : Nat → Nat → Int32) (w' : Int64), res = (s, j, [], 0) ∧ 0 < s ∧ s < 100 ∧ r = (v', f', w', g) ∧ YF c n v0 f0 v' f' s j
theorem yUnitEnd (T : TY c n v0 f0) (hc : ∀ k, k < n → c k < 256) (h0 : v0 1 = 0) {v : Nat → Int32} {f : Nat → Nat → Int32} {w : Int64} {i own m : Nat} {out : List (Nat × Int32)} {st : List Nat} {res : Nat × Nat × List (Nat × Int32) × Nat} (h : YR c n v0 f0 v f w i out st own) (ho : own ≤ 30) (hd : fDp st ≤ 7) (hb : out.length + st.length ≤ 10 * own + fDp st + 1) (hn : tk_k c n i = 115 → fMay st = false) (h40 : tk_k c n i ≠ 40) (hs : sy (tk_k c n) (tk_n c n) (m + 1) true i out st own = some res) : YOK c n v0 f0 g (gsY_X11_unit_1_J2 NF f g v w) own st res ∨ YBAD c n v0 f0 g (gsY_X11_unit_1_J2 NF f g v w) res := by
  have hk := tk_lt hc i
  have hf1 := YR.f1 h h0
  obtain ⟨t40, t2, _, _, _⟩ := tS40 _ hk
  have hr := fFl_r (tk_k c n i)
  have bad : ∀ r4 : Int32, gsY_X11_unit_1_J6 NF f g v w r4 = (upd (upd v 1 (nI (fFl (tk_k c n i)))) 2 (nI (tk_p c n i)), f, w, g) := fun r4 => by
    unfold gsY_X11_unit_1_J6
    rw [YR.wrong hc h0 h]
    show (if upd (upd v 1 (nI (fFl (tk_k c n i)))) 2 (nI (tk_p c n i)) 1 ≤ 0 then _ else _) = _
    rw [pk_un (show (1 : Nat) ≠ 2 by decide), pk_us, if_neg (nI_nle hr.1 (by omega))]
  have isBad : ¬ (fOp (tk_k c n i) = true ∧ own ≠ 30) → ∀ r4 : Int32, YBAD c n v0 f0 g (gsY_X11_unit_1_J6 NF f g v w r4) res := fun z r4 => by
    rw [sy_opF hn h40 z] at hs
    injection hs with hs
    exact ⟨_, i, _, f, w, hs.symm, hr.1, by omega, bad r4, YR.fail h⟩
  simp only [gsY_X11_unit_1_J2, hf1, h.1.2.1, yAsked hc h.1]
  rw [if_pos (show (0 : Int32) ≤ 0 by decide)]
  have J107 : fOp (tk_k c n i) = true → ∀ r4 : Int32, (tk_k c n i = 2 ∧ r4 = -1 ∨ (116 ≤ tk_k c n i ∧ tk_k c n i ≤ 121) ∧ r4 = nI (tk_k c n i - 116)) → YOK c n v0 f0 g (gsY_X11_unit_1_J107 NF f g v w r4) own st res ∨ YBAD c n v0 f0 g (gsY_X11_unit_1_J107 NF f g v w r4) res := fun hop r4 hr4 => by
    simp only [gsY_X11_unit_1_J107, YR.full h ho, hf1]
    by_cases e30 : own = 30
    · rw [if_pos e30, ite11]
      exact Or.inr (isBad (fun z => z.2 e30) r4)
    · rw [if_neg e30, ite01, if_pos (show (0 : Int32) ≤ 0 by decide)]
      rw [sy_op hop e30] at hs
      obtain ⟨v1, e1, x1⟩ := YR.count (NF := NF) (g := g) h
      have h17 : tk_k c n i = 2 → v1 7 = tk_n c n i := fun z => x1.1.2.2.2.1 z
      simp only [e1]
      have h1 : tk_k c n i ≠ 1 := by rcases hr4 with z | z <;> omega
      rcases hr4 with ⟨z1, z2⟩ | ⟨z1, z2⟩
      · rw [if_neg (show ¬ (0 : Int32) ≤ r4 by rw [z2]; decide), if_neg (show ¬ (0 : Int32) ≤ r4 by rw [z2]; decide)]
        obtain ⟨v2, f2, e2, x2, _, _⟩ := YR.add (NF := NF) (g := g) (k := tk_k c n i) (x := tk_n c n i) (a := 0) (y := v1 7) (by rw [z1]; rfl) (by rw [h17 z1, z1]; rfl) (by omega) x1
        have e2 : gsY_X11_add_1 NF 0 (v1 7) v1 f w g = (v2, f2, w, g) := e2
        obtain ⟨v3, w3, e3, x3⟩ := YR.tok (NF := NF) (g := g) T x2 h1
        simp only [e2, e3]
        rw [if_pos z1] at hs
        exact Or.inl ⟨m, i + 1, _, st, own + 1, v3, f2, w3, rfl, x3, hs, by omega, by omega, hd, rfl, by rw [List.length_append, List.length_singleton]; omega⟩
      · have hp : (0 : Int32) ≤ r4 := by rw [z2]; exact nI_pos' (by omega)
        rw [if_pos hp, if_pos hp]
        obtain ⟨v2, f2, e2, x2, _, _⟩ := YR.add (NF := NF) (g := g) (k := tk_k c n i) (x := 0) (a := 1) (y := r4) (by unfold eA; rw [if_neg (by omega), if_pos z1]) (by unfold eB; rw [if_neg (by omega), if_pos z1, z2]) (by omega) x1
        have e2 : gsY_X11_add_1 NF 1 r4 v1 f w g = (v2, f2, w, g) := e2
        obtain ⟨v3, w3, e3, x3⟩ := YR.tok (NF := NF) (g := g) T x2 h1
        simp only [e2, e3]
        rw [if_neg (by omega)] at hs
        exact Or.inl ⟨m, i + 1, _, st, own + 1, v3, f2, w3, rfl, x3, hs, by omega, by omega, hd, rfl, by rw [List.length_append, List.length_singleton]; omega⟩
  by_cases e2 : tk_k c n i = 2
  · rw [if_pos (t2.mpr e2), if_neg (by omega)]
    exact J107 (by rw [e2]; decide) _ (Or.inl ⟨e2, rfl⟩)
  · rw [if_neg (fun z => e2 (t2.mp z))]
    by_cases e3 : 116 ≤ tk_k c n i ∧ tk_k c n i ≤ 121
    · rw [if_pos e3, if_neg (nI_pos (by omega))]
      exact J107 (by simp [fOp]; omega) _ (Or.inr ⟨e3, rfl⟩)
    · rw [if_neg e3, if_pos (show (-1 : Int32) < 0 by decide)]
      exact Or.inr (isBad (fun z => by have := z.1; simp [fOp] at this; omega) _)
theorem yUnit (T : TY c n v0 f0) (hc : ∀ k, k < n → c k < 256) (h0 : v0 1 = 0) {res : Nat × Nat × List (Nat × Int32) × Nat} : ∀ (fu m i own : Nat) (out : List (Nat × Int32)) (st : List Nat) (v : Nat → Int32) (f : Nat → Nat → Int32) (w : Int64), YR c n v0 f0 v f w i out st own → own ≤ 30 → fDp st ≤ 7 → out.length + st.length ≤ 10 * own + fDp st + 1 → 8 - fDp st < fu → sy (tk_k c n) (tk_n c n) m true i out st own = some res → YOK c n v0 f0 g (gsY_X11_unit_1_L1 NF fu 1 v f w g) own st res ∨ YBAD c n v0 f0 g (gsY_X11_unit_1_L1 NF fu 1 v f w g) res := by
  intro fu
  induction fu with
  | zero => intro m i own out st v f w _ _ _ _ h; exact absurd h (Nat.not_lt_zero _)
  | succ fu ih =>
    intro m i own out st v f w h ho hd hb hf hs
    have hk := tk_lt hc i
    have hf1 := YR.f1 h h0
    have hst : st.length < 1000 := by omega
    obtain ⟨t40, t2, _, _, _⟩ := tS40 _ hk
    have hr := fFl_r (tk_k c n i)
    obtain ⟨m, rfl⟩ : ∃ q, m = q + 1 := by
      rcases m with _ | q
      · exact absurd hs (by simp [sy])
      · exact ⟨q, rfl⟩
    obtain ⟨fu, rfl⟩ : ∃ q, fu = q + 1 := ⟨fu - 1, by omega⟩
    have h14 : v 14 = nI (fDp st) := h.2.2.2.2.2.2.2.1
    rw [gsY_X11_unit_1_L1, if_neg (show ¬ (1 : Int32) = 0 by decide), if_pos hf1, yIsW hc h.1 (k := 115) (by decide) (by decide) (by decide +kernel), yMay h.2.2.2.2.2.2.2.2.2 h.2.2.2.2.1 hst, h14]
    have other : (tk_k c n i = 115 → fMay st = false) → YOK c n v0 f0 g (gsY_X11_unit_1_J204 NF f g 1 v w (fun z0 z1 z2 z3 z4 => gsY_X11_unit_1_L1 NF (fu + 1) z0 z1 z2 z3 z4)) own st res ∨ YBAD c n v0 f0 g (gsY_X11_unit_1_J204 NF f g 1 v w (fun z0 z1 z2 z3 z4 => gsY_X11_unit_1_L1 NF (fu + 1) z0 z1 z2 z3 z4)) res := fun hn => by
      simp only [gsY_X11_unit_1_J204, h.1.2.1, YR.full h ho, h14]
      by_cases e40 : tk_k c n i = 40
      · rw [if_pos (t40.mpr e40)]
        have bad : (own = 30 ∨ 6 < fDp st) → ∃ v' f' w', YF c n v0 f0 v' f' (fFl (tk_k c n i)) i ∧ (match gsY_X11_wrong_1 NF 2 v f w g with | (v264, f265, w266, g267) => match gsY_X11_countUnit_1 NF v264 f265 w266 g267 with | (v275, f276, w277, g278) => match gsY_X11_openUp_1 NF 20 v275 f276 w277 g278 with | (v284, f285, w286, g287) => gsY_X11_unit_1_L1 NF (fu + 1) 1 v284 f285 w286 g287) = (v', f', w', g) := fun _ => by
          rw [YR.wrong hc h0 h]
          simp only [gsY_X11_countUnit_1]
          have y1 := (YR.fail (s := fFl (tk_k c n i)) h).u (x := upd (upd v 1 (nI (fFl (tk_k c n i)))) 2 (nI (tk_p c n i)) 11 + 1) (y := upd (upd v 1 (nI (fFl (tk_k c n i)))) 2 (nI (tk_p c n i)) 13 + 1)
          rw [yOpenF y1.1 hr.1 (by omega)]
          refine ⟨_, _, _, ?_, yU_f ((pk_un (by decide)).trans ((pk_un (by decide)).trans y1.1)) hr.1 (by omega) fu⟩
          exact y1.o
        by_cases e30 : own = 30
        · rw [if_pos e30, ite11]
          obtain ⟨v', f', w', y, e⟩ := bad (Or.inl e30)
          rw [sy_brF e40 (Or.inl e30)] at hs
          injection hs with hs
          exact Or.inr ⟨_, i, v', f', w', hs.symm, hr.1, by omega, e, y⟩
        · rw [if_neg e30, ite01]
          by_cases e6 : fDp st ≤ 6
          · rw [if_pos (show nI (fDp st) ≤ (6 : Int32) from nI_le (b := 6) e6 (by omega))]
            rw [sy_br e40 e30 e6] at hs
            obtain ⟨v1, e1, x1⟩ := YR.count (NF := NF) (g := g) h
            obtain ⟨v2, f2, w2, e2, x2⟩ := YR.openUp (NF := NF) (g := g) T h0 x1 (Or.inr rfl) (by omega) hst
            have e2 : gsY_X11_openUp_1 NF 20 v1 f w g = (v2, f2, w2, g) := e2
            simp only [e1, e2]
            have d1 : fDp (40 :: st) = fDp st + 1 := by show (if (40 : Nat) = 115 ∨ (40 : Nat) = 40 then 1 else 0) + fDp st = _; rw [if_pos (Or.inr rfl), Nat.add_comm]
            rcases ih m (i + 1) (own + 1) out (40 :: st) v2 f2 w2 x2 (by omega) (by omega) (by rw [List.length_cons]; omega) (by omega) hs with ⟨m', i', o', s', w', a1, a2, a3, b1, b2, b3, b4, b5, b6, b7, b8⟩ | q
            · rw [List.length_cons] at b7
              exact Or.inl ⟨m', i', o', s', w', a1, a2, a3, b1, b2, b3, by omega, b5, b6, by omega, b8⟩
            · exact Or.inr q
          · rw [if_neg (show ¬ nI (fDp st) ≤ (6 : Int32) from nI_ge (a := 6) (by omega) (by omega))]
            obtain ⟨v', f', w', y, e⟩ := bad (Or.inr (by omega))
            rw [sy_brF e40 (Or.inr (by omega))] at hs
            injection hs with hs
            exact Or.inr ⟨_, i, v', f', w', hs.symm, hr.1, by omega, e, y⟩
      · rw [if_neg (fun z => e40 (t40.mp z))]
        have e : gsY_X11_unit_1_L1 NF (fu + 1) 0 v f w g = gsY_X11_unit_1_J2 NF f g v w := by rw [gsY_X11_unit_1_L1, if_pos rfl]
        rw [e]
        exact yUnitEnd (NF := NF) T hc h0 h ho hd hb hn e40 hs
    by_cases e115 : tk_k c n i = 115
    · rw [if_pos e115, ite11]
      by_cases hm : fMay st = true
      · rw [if_pos hm, ite11]
        by_cases e6 : fDp st ≤ 6
        · rw [if_pos (show nI (fDp st) ≤ (6 : Int32) from nI_le (b := 6) e6 (by omega))]
          rw [sy_not e115 hm e6] at hs
          obtain ⟨v2, f2, w2, e2, x2⟩ := YR.openUp (NF := NF) (g := g) T h0 h (Or.inl rfl) (by omega) hst
          have e2 : gsY_X11_openUp_1 NF 21 v f w g = (v2, f2, w2, g) := e2
          simp only [e2]
          have d1 : fDp (115 :: st) = fDp st + 1 := by show (if (115 : Nat) = 115 ∨ (115 : Nat) = 40 then 1 else 0) + fDp st = _; rw [if_pos (Or.inl rfl), Nat.add_comm]
          rcases ih m (i + 1) own out (115 :: st) v2 f2 w2 x2 ho (by omega) (by rw [List.length_cons]; omega) (by omega) hs with ⟨m', i', o', s', w', a1, a2, a3, b1, b2, b3, b4, b5, b6, b7, b8⟩ | q
          · rw [List.length_cons] at b7
            exact Or.inl ⟨m', i', o', s', w', a1, a2, a3, b1, b2, b3, b4, b5, b6, by omega, b8⟩
          · exact Or.inr q
        · rw [if_neg (show ¬ nI (fDp st) ≤ (6 : Int32) from nI_ge (a := 6) (by omega) (by omega)), YR.wrong hc h0 h]
          have y1 := YR.fail (s := fFl (tk_k c n i)) h
          show YOK c n v0 f0 g (match gsY_X11_openUp_1 NF 21 (upd (upd v 1 (nI (fFl (tk_k c n i)))) 2 (nI (tk_p c n i))) f w g with | (v326, f327, w328, g329) => gsY_X11_unit_1_L1 NF (fu + 1) 1 v326 f327 w328 g329) own st res ∨ YBAD c n v0 f0 g (match gsY_X11_openUp_1 NF 21 (upd (upd v 1 (nI (fFl (tk_k c n i)))) 2 (nI (tk_p c n i))) f w g with | (v326, f327, w328, g329) => gsY_X11_unit_1_L1 NF (fu + 1) 1 v326 f327 w328 g329) res
          rw [yOpenF y1.1 hr.1 (by omega)]
          rw [sy_notF e115 hm (by omega)] at hs
          injection hs with hs
          refine Or.inr ⟨_, i, _, _, _, hs.symm, hr.1, by omega, yU_f ((pk_un (by decide)).trans ((pk_un (by decide)).trans y1.1)) hr.1 (by omega) fu, ?_⟩
          exact y1.o
      · rw [if_neg hm, ite01]
        exact other (fun _ => Bool.eq_false_iff.mpr hm)
    · rw [if_neg e115, ite01]
      exact other (fun z => absurd z e115)
end
end
end
section
section
variable {NF : Nat}
theorem fCls_len {t : Nat} : ∀ (st : List Nat) (out : List (Nat × Int32)), (fCls t out st).1.length + (fCls t out st).2.length = out.length + st.length ∧ (fCls t out st).2.length ≤ st.length ∧ fDp (fCls t out st).2 ≤ fDp st := by
  intro st
  induction st with
  | nil => intro out; exact ⟨rfl, Nat.le_refl _, Nat.le_refl _⟩
  | cons a l ih =>
    intro out
    rw [show fCls t out (a :: l) = if a = 40 ∨ fTg a < t then (out, a :: l) else fCls t (out ++ [(a, 0)]) l from rfl]
    by_cases h : a = 40 ∨ fTg a < t
    · rw [if_pos h]; exact ⟨rfl, Nat.le_refl _, Nat.le_refl _⟩
    · rw [if_neg h]
      obtain ⟨h1, h2, h3⟩ := ih (out ++ [(a, 0)])
      rw [List.length_append, List.length_singleton] at h1
      have h4 : fDp (a :: l) = (if a = 115 ∨ a = 40 then 1 else 0) + fDp l := rfl
      rw [List.length_cons]
      exact ⟨by omega, by omega, by omega⟩
theorem fCls0_B : ∀ (st : List Nat) (out : List (Nat × Int32)), fHasB st = true → ∃ P rest, st = P ++ 40 :: rest ∧ (∀ a ∈ P, a ≠ 40) ∧ fCls 0 out st = (out ++ fMp P, 40 :: rest) := by
  intro st
  induction st with
  | nil => intro out h; exact absurd h (by decide)
  | cons a l ih =>
    intro out h
    by_cases e : a = 40
    · subst e
      exact ⟨[], l, rfl, fun a ha => absurd ha (by simp), by rw [fCls_stop (Or.inr ⟨40, l, rfl, Or.inl rfl⟩)]; simp [fMp]⟩
    · have hl : fHasB l = true := by
        simp only [fHasB, List.contains_eq_mem, List.mem_cons, decide_eq_true_eq] at h ⊢
        exact h.resolve_left (fun z => e z.symm)
      obtain ⟨P, rest, h1, h2, h3⟩ := ih (out ++ [(a, 0)]) hl
      refine ⟨a :: P, rest, by rw [h1]; rfl, fun b hb => ?_, ?_⟩
      · rcases List.mem_cons.mp hb with q | q
        · rw [q]; exact e
        · exact h2 b q
      · rw [show fCls 0 out (a :: l) = if a = 40 ∨ fTg a < 0 then (out, a :: l) else fCls 0 (out ++ [(a, 0)]) l from rfl, if_neg (fun z => z.elim e (fun q => absurd q (Nat.not_lt_zero _))), h3]
        simp [fMp]
theorem fCls0_N {st : List Nat} (out : List (Nat × Int32)) (h : fHasB st = false) : fCls 0 out st = (out ++ fMp st, []) := by
  have e := fCls_app (t := 0) (st := []) (Or.inl rfl) st out (fun a ha => ⟨fun z => by
    rw [z] at ha
    have : fHasB st = true := by simp only [fHasB, List.contains_eq_mem, decide_eq_true_eq]; exact ha
    rw [h] at this
    exact absurd this (by decide), Nat.zero_le _⟩)
  rwa [List.append_nil] at e
theorem sg_e : ∀ a, a < 256 → fSg a = true → ¬ nI (eS a) = 0 ∧ vS a = true ∧ a ≠ 1 ∧ a ≠ 41 ∧ a ≠ 40 ∧ a ≠ 115 := by decide +kernel
section
variable {c : Nat → Nat} {n : Nat} {v0 : Nat → Int32} {f0 : Nat → Nat → Int32} {g : Nat → Int64}
def YFIN (c : Nat → Nat) (n : Nat) (v0 : Nat → Int32) (f0 : Nat → Nat → Int32) (g : Nat → Int64) (r : (Nat → Int32) × (Nat → Nat → Int32) × Int64 × (Nat → Int64)) (res : Nat × Nat × List (Nat × Int32) × Nat) : Prop := (∃ (j : Nat) (out' : List (Nat × Int32)) (own' : Nat) (v' : Nat → Int32) (f' : Nat → Nat → Int32) (w' : Int64), res = (0, j, out', own') ∧ r = (v', f', w', g) ∧ YR c n v0 f0 v' f' w' j out' [] own') ∨ YBAD c n v0 f0 g r res
theorem yL_f {v : Nat → Int32} {f : Nat → Nat → Int32} {w : Int64} {l : Int32} {s : Nat} (h1 : v 1 = nI s) (h0 : 0 < s) (hs : s < 100) (fu : Nat) : gsY_X11_formula_1_L20 NF (fu + 1) l v f w g = (v, f, w, g) := by
  simp only [gsY_X11_formula_1_L20, gsY_X11_formula_1_J21, gsY_X11_formula_1_J22, h1]
  have hn : ¬ nI s = 0 := nI_ne0 h0 (by omega)
  simp only [if_neg hn]
  split <;> rfl
theorem yLoop (T : TY c n v0 f0) (hc : ∀ k, k < n → c k < 256) (h0 : v0 1 = 0) {res : Nat × Nat × List (Nat × Int32) × Nat} : ∀ (fu m i own : Nat) (out : List (Nat × Int32)) (st : List Nat) (v : Nat → Int32) (f : Nat → Nat → Int32) (w : Int64), YR c n v0 f0 v f w i out st own → own ≤ 30 → fDp st ≤ 7 → out.length + st.length ≤ 10 * own → 10 * (31 - own) + st.length + 1 < fu → sy (tk_k c n) (tk_n c n) m false i out st own = some res → YFIN c n v0 f0 g (gsY_X11_formula_1_L20 NF fu 1 v f w g) res := by
  intro fu
  induction fu with
  | zero => intro m i own out st v f w _ _ _ _ h; exact absurd h (Nat.not_lt_zero _)
  | succ fu ih =>
    intro m i own out st v f w h ho hd hb hf hs
    have hk := tk_lt hc i
    have hf1 := YR.f1 h h0
    have hst : st.length < 1000 := by omega
    obtain ⟨t40, t2, t41, _, _⟩ := tS40 _ hk
    have hr := fFl_r (tk_k c n i)
    obtain ⟨m, rfl⟩ : ∃ q, m = q + 1 := by
      rcases m with _ | q
      · exact absurd hs (by simp [sy])
      · exact ⟨q, rfl⟩
    obtain ⟨fu, rfl⟩ : ∃ q, fu = q + 1 := ⟨fu - 1, by omega⟩
    have hS : STY st f := h.2.2.2.2.2.2.2.2.2
    have h10 : v 10 = nI st.length := h.2.2.2.2.1
    have h14 : v 14 = nI (fDp st) := h.2.2.2.2.2.2.2.1
    have stop : ¬ (fSg (tk_k c n i) = true ∧ ¬ (fTg (tk_k c n i) = 4 ∧ fHasR st = true)) → ¬ (tk_k c n i = 41 ∧ fHasB st = true) → YFIN c n v0 f0 g (gsY_X11_formula_1_L20 NF (fu + 1) 0 v f w g) res := fun z1 z2 => by
      rw [gsY_X11_formula_1_L20, if_pos rfl]
      simp only [gsY_X11_formula_1_J21, hf1, yHasB hS h10 hst]
      rw [if_pos trivial]
      by_cases hB : fHasB st = true
      · rw [if_pos hB, ite11, YR.wrong hc h0 h]
        have y1 := YR.fail (s := fFl (tk_k c n i)) h
        rw [sy_stB (fun q => z2 ⟨q, hB⟩) z1 hB] at hs
        injection hs with hs
        refine Or.inr ⟨_, i, _, f, w, hs.symm, hr.1, by omega, ?_, y1⟩
        show (if upd (upd v 1 (nI (fFl (tk_k c n i)))) 2 (nI (tk_p c n i)) 1 = 0 then _ else _) = _
        rw [y1.1, if_neg (nI_ne0 hr.1 (by omega))]
      · have hB := Bool.eq_false_iff.mpr hB
        rw [hB, if_neg (show ¬ false = true by decide), ite01]
        simp only [gsY_X11_formula_1_J22, hf1]
        rw [if_pos trivial]
        rw [sy_stN z1 hB] at hs
        injection hs with hs
        obtain ⟨v', f', e, y⟩ := YR.close (NF := NF) (t := 0) (g := g) (by decide) st (4294967296 + NF) v f out h (by omega) (by omega)
        have e : gsY_X11_close_1 NF 0 v f w g = (v', f', w, g) := e
        simp only [e]
        rw [fCls0_N out hB] at y hs
        exact Or.inl ⟨i, _, own, v', f', w, hs.symm, rfl, y⟩
    rw [gsY_X11_formula_1_L20, if_neg (show ¬ (1 : Int32) = 0 by decide), if_pos hf1]
    simp only [ySign hc h.1, h.1.2.1, yHasB hS h10 hst]
    have other : ¬ (tk_k c n i = 41 ∧ fHasB st = true) → YFIN c n v0 f0 g (gsY_X11_formula_1_J72 NF f g 1 v w (if fSg (tk_k c n i) = true then nI (eS (tk_k c n i)) else 0) (fun z0 z1 z2 z3 z4 => gsY_X11_formula_1_L20 NF (fu + 1) z0 z1 z2 z3 z4)) res := fun z2 => by
      by_cases hsg : fSg (tk_k c n i) = true
      · obtain ⟨g0, gv, g1, g41, g40, g115⟩ := sg_e _ hk hsg
        have h6 := fTg_lt (tk_k c n i)
        rw [if_pos hsg]
        simp only [gsY_X11_formula_1_J72, yTight gv g40, yHasR hS h10 hst]
        rw [if_neg g0]
        have go : ¬ (fTg (tk_k c n i) = 4 ∧ fHasR st = true) → YFIN c n v0 f0 g (gsY_X11_formula_1_J74 NF f g 1 v w (nI (eS (tk_k c n i))) (fun z0 z1 z2 z3 z4 => gsY_X11_formula_1_L20 NF (fu + 1) z0 z1 z2 z3 z4)) res := fun z4 => by
          rw [sy_sg g41 hsg z4] at hs
          obtain ⟨l1, l2, l3⟩ := fCls_len (t := fTg (tk_k c n i)) st out
          obtain ⟨v1, f1, e1, x1⟩ := YR.close (NF := NF) (t := fTg (tk_k c n i)) (g := g) h6 st (4294967296 + NF) v f out h (by omega) (by omega)
          have e1 : gsY_X11_close_1 NF (nI (fTg (tk_k c n i))) v f w g = (v1, f1, w, g) := e1
          simp only [gsY_X11_formula_1_J74, yTight gv g40, e1]
          generalize fCls (fTg (tk_k c n i)) out st = Q at hs l1 l2 l3 x1
          obtain ⟨o2, s2⟩ := Q
          have d1 : fDp (tk_k c n i :: s2) = fDp s2 := by show (if tk_k c n i = 115 ∨ tk_k c n i = 40 then 1 else 0) + fDp s2 = _; rw [if_neg (fun z => z.elim g115 g40), Nat.zero_add]
          have l1 : o2.length + s2.length = out.length + st.length := l1
          have l2 : s2.length ≤ st.length := l2
          have l3 : fDp s2 ≤ fDp st := l3
          have x1 : YR c n v0 f0 v1 f1 w i o2 s2 own := x1
          have hs : sy (tk_k c n) (tk_n c n) m true (i + 1) o2 (tk_k c n i :: s2) own = some res := hs
          have x2 : YR c n v0 f0 (upd v1 10 (nI (s2.length + 1))) (upd2 f1 6 (upd (f1 6) s2.length (nI (eS (tk_k c n i))))) w i o2 (tk_k c n i :: s2) own := by
            obtain ⟨⟨c1, c2, c3, c4, c5⟩, q2, q3, q8, q10, q11, q13, q14, q15, q16⟩ := x1
            refine ⟨⟨(pk_un (by decide)).trans c1, (pk_un (by decide)).trans c2, fun z => (pk_un (by decide)).trans (c3 z), fun z => (pk_un (by decide)).trans (c4 z), c5⟩, fun k k3 k5 k6 k7 k8 k10 k11 k13 k14 => (pk_un k10).trans (q2 k k3 k5 k6 k7 k8 k10 k11 k13 k14), fun q r2 r3 r6 => ?_, (pk_un (by decide)).trans q8, by rw [pk_us]; rfl, (pk_un (by decide)).trans q11, (pk_un (by decide)).trans q13, (pk_un (by decide)).trans (by rw [q14, d1]), fun j hj => q15 j hj, ?_, gv, STY.of q16 (fun j hj => ?_)⟩
            · show (if q = 6 then _ else f1 q) = f0 q
              rw [if_neg r6]; exact q3 q r2 r3 r6
            · show upd (f1 6) s2.length (nI (eS (tk_k c n i))) s2.length = _; rw [pk_us]
            · show upd (f1 6) s2.length (nI (eS (tk_k c n i))) j = f1 6 j; exact pk_un (by omega)
          have q10 : v1 10 = nI s2.length := x1.2.2.2.2.1
          rw [q10, nI_clamp (by omega), nI_1]
          obtain ⟨v3, w3, e3, x3⟩ := YR.tok (NF := NF) (g := g) T x2 g1
          simp only [e3]
          have hU := yUnit (NF := NF) (g := g) T hc h0 (4294967296 + NF) m (i + 1) own o2 (tk_k c n i :: s2) v3 _ w3 x3 ho (by omega) (by rw [List.length_cons]; omega) (by omega) hs
          unfold gsY_X11_unit_1
          rcases hU with ⟨m', i', o', s', w', a1, a2, a3, b1, b2, b3, b4, b5, b6, b7, b8⟩ | ⟨s, j, a1, a2, a3, b1, b2, b3, b4, b5⟩
          · simp only [b1]
            rw [List.length_cons] at b7
            exact ih m' i' w' o' s' a1 a2 a3 b2 b5 b6 b8 (by omega) b3
          · simp only [b4]
            exact Or.inr ⟨s, j, a1, a2, a3, b1, b2, b3, yL_f b5.1 b2 b3 fu, b5⟩
        by_cases e4 : fTg (tk_k c n i) = 4
        · rw [if_pos (by rw [e4]; rfl)]
          by_cases hR : fHasR st = true
          · rw [if_pos hR, ite11]
            exact stop (fun z => z.2 ⟨e4, hR⟩) z2
          · rw [if_neg hR, ite01]
            exact go (fun z => hR z.2)
        · rw [if_neg (nlit 4 4 rfl (by omega) (by decide) e4)]
          exact go (fun z => e4 z.1)
      · rw [if_neg hsg]
        simp only [gsY_X11_formula_1_J72]
        rw [if_pos trivial]
        exact stop (fun z => hsg z.1) z2
    by_cases e41 : tk_k c n i = 41
    · rw [if_pos (t41.mpr e41)]
      by_cases hB : fHasB st = true
      · rw [if_pos hB, ite11]
        rw [sy_cl e41 hB] at hs
        obtain ⟨P, rest, p1, p2, p3⟩ := fCls0_B st out hB
        obtain ⟨v1, f1, e1, x1⟩ := YR.close (NF := NF) (t := 0) (g := g) (by decide) st (4294967296 + NF) v f out h (by omega) (by omega)
        have e1 : gsY_X11_close_1 NF 0 v f w g = (v1, f1, w, g) := e1
        rw [p3] at x1 hs
        have d1 : fDp (40 :: rest) = fDp rest + 1 := by show (if (40 : Nat) = 115 ∨ (40 : Nat) = 40 then 1 else 0) + fDp rest = _; rw [if_pos (Or.inr rfl), Nat.add_comm]
        have hlen : st.length = P.length + rest.length + 1 := by rw [p1, List.length_append, List.length_cons]; omega
        have hdr : fDp rest ≤ 7 := by
          have := (fCls_len (t := 0) st out).2.2
          rw [p3] at this
          have : fDp (40 :: rest) ≤ fDp st := this
          omega
        have x2 : YR c n v0 f0 (upd (upd v1 10 (nI rest.length)) 14 (nI (fDp rest))) f1 w i (out ++ fMp P) rest own := by
          obtain ⟨⟨c1, c2, c3, c4, c5⟩, q2, q3, q8, q10, q11, q13, q14, q15, q16⟩ := x1
          exact ⟨⟨(pk_un (by decide)).trans ((pk_un (by decide)).trans c1), (pk_un (by decide)).trans ((pk_un (by decide)).trans c2), fun z => (pk_un (by decide)).trans ((pk_un (by decide)).trans (c3 z)), fun z => (pk_un (by decide)).trans ((pk_un (by decide)).trans (c4 z)), c5⟩, fun k k3 k5 k6 k7 k8 k10 k11 k13 k14 => (pk_un k14).trans ((pk_un k10).trans (q2 k k3 k5 k6 k7 k8 k10 k11 k13 k14)), q3, (pk_un (by decide)).trans ((pk_un (by decide)).trans q8), (pk_un (by decide)).trans pk_us, (pk_un (by decide)).trans ((pk_un (by decide)).trans q11), (pk_un (by decide)).trans ((pk_un (by decide)).trans q13), pk_us, q15, q16.2.2⟩
        have q10 : v1 10 = nI (rest.length + 1) := x1.2.2.2.2.1
        have q14 : v1 14 = nI (fDp rest + 1) := by rw [← d1]; exact x1.2.2.2.2.2.2.2.1
        obtain ⟨v3, w3, e3, x3⟩ := YR.tok (NF := NF) (g := g) T x2 (by omega)
        simp only [e1, q10, q14, nI_pred, e3]
        exact ih m (i + 1) own (out ++ fMp P) rest v3 f1 w3 x3 ho hdr (by rw [List.length_append, fMp_len]; omega) (by omega) hs
      · rw [if_neg hB, ite01]
        exact other (fun z => hB z.2)
    · rw [if_neg (fun z => e41 (t41.mp z))]
      exact other (fun z => e41 z.1)
end
end
end
section
def wfP (k : Nat) : Bool := k == 2 || (decide (116 ≤ k) && decide (k ≤ 121))
def wfS : List (Nat × Int32) → Nat → Option Nat
  | [], d => some d
  | x :: l, d => if wfP x.1 = true then wfS l (d + 1) else if x.1 = 115 then (if 1 ≤ d then wfS l d else none) else (if 2 ≤ d then wfS l (d - 1) else none)
def wfN : List (Nat × Int32) → Nat
  | [] => 0
  | x :: l => (if wfP x.1 = true then 1 else 0) + wfN l
def okK (k : Nat) : Prop := wfP k = true ∨ k = 115 ∨ fSg k = true
def WFo (out : List (Nat × Int32)) (own : Nat) : Prop := wfS out 0 = some 1 ∧ wfN out ≤ own ∧ ∀ x ∈ out, okK x.1
theorem wfS_app : ∀ (l m : List (Nat × Int32)) (d e : Nat), wfS l d = some e → wfS (l ++ m) d = wfS m e := by
  intro l
  induction l with
  | nil => intro m d e h; simp only [wfS] at h; injection h with h; rw [List.nil_append, h]
  | cons x l ih =>
    intro m d e h
    rw [List.cons_append]
    simp only [wfS] at h ⊢
    by_cases c1 : wfP x.1 = true
    · rw [if_pos c1] at h ⊢; exact ih m _ e h
    · rw [if_neg c1] at h ⊢
      by_cases c2 : x.1 = 115
      · rw [if_pos c2] at h ⊢
        by_cases c3 : 1 ≤ d
        · rw [if_pos c3] at h ⊢; exact ih m _ e h
        · rw [if_neg c3] at h; cases h
      · rw [if_neg c2] at h ⊢
        by_cases c3 : 2 ≤ d
        · rw [if_pos c3] at h ⊢; exact ih m _ e h
        · rw [if_neg c3] at h; cases h
theorem wfN_app : ∀ (l m : List (Nat × Int32)), wfN (l ++ m) = wfN l + wfN m := by
  intro l
  induction l with
  | nil => intro m; simp [wfN]
  | cons x l ih => intro m; rw [List.cons_append]; simp only [wfN, ih]; omega
def wfB : List Nat → Nat
  | [] => 0
  | a :: l => (if a = 40 ∨ a = 115 then 0 else 1) + wfB l
def wfV (a : Nat) : Prop := a = 40 ∨ a = 115 ∨ fSg a = true
theorem wf_sg : ∀ k, k < 256 → fSg k = true → wfP k = false ∧ k ≠ 40 ∧ k ≠ 115 := by decide +kernel
theorem wf_sg' {k : Nat} (h : fSg k = true) : wfP k = false ∧ k ≠ 40 ∧ k ≠ 115 := by
  have hk : k < 256 := by
    simp only [fSg, List.contains_eq_mem, decide_eq_true_eq, List.mem_cons, List.mem_nil_iff, or_false] at h
    omega
  exact wf_sg k hk h
theorem wfV.p {a : Nat} (h : wfV a) : wfP a = false := by
  rcases h with h | h | h
  · rw [h]; decide
  · rw [h]; decide
  · exact (wf_sg' h).1
theorem wfV.k {a : Nat} (h : wfV a) (h4 : a ≠ 40) : okK a := Or.inr (h.resolve_left h4)
theorem okK_app {l m : List (Nat × Int32)} (h : ∀ x ∈ l, okK x.1) (h' : ∀ x ∈ m, okK x.1) : ∀ x ∈ l ++ m, okK x.1 := fun x hx => (List.mem_append.mp hx).elim (h x) (h' x)
theorem wf_cls {t : Nat} : ∀ (st : List Nat) (out : List (Nat × Int32)) (own : Nat), (∀ a ∈ st, wfV a) → wfS out 0 = some (wfB st + 1) → wfN out ≤ own → (∀ x ∈ out, okK x.1) → wfS (fCls t out st).1 0 = some (wfB (fCls t out st).2 + 1) ∧ wfN (fCls t out st).1 ≤ own ∧ (∀ a ∈ (fCls t out st).2, wfV a) ∧ ∀ x ∈ (fCls t out st).1, okK x.1 := by
  intro st
  induction st with
  | nil => intro out own hv h1 h2 ho; exact ⟨h1, h2, hv, ho⟩
  | cons a l ih =>
    intro out own hv h1 h2 ho
    by_cases c : a = 40 ∨ fTg a < t
    · have e : fCls t out (a :: l) = (out, a :: l) := if_pos c
      rw [e]
      exact ⟨h1, h2, hv, ho⟩
    · have e : fCls t out (a :: l) = fCls t (out ++ [(a, 0)]) l := if_neg c
      rw [e]
      have vv := hv a (List.mem_cons_self ..)
      have va : wfP a = false := vv.p
      have vn : ¬ wfP a = true := by rw [va]; decide
      have a40 : a ≠ 40 := fun z => c (Or.inl z)
      refine ih (out ++ [(a, 0)]) own (fun b hb => hv b (List.mem_cons_of_mem _ hb)) ?_ ?_ (okK_app ho (fun x hx => by rw [List.mem_singleton.mp hx]; exact vv.k a40))
      · rw [wfS_app _ _ _ _ h1]
        show (if wfP a = true then wfS [] (wfB (a :: l) + 1 + 1) else if a = 115 then (if 1 ≤ wfB (a :: l) + 1 then wfS [] (wfB (a :: l) + 1) else none) else (if 2 ≤ wfB (a :: l) + 1 then wfS [] (wfB (a :: l) + 1 - 1) else none)) = some (wfB l + 1)
        have eB : wfB (a :: l) = (if a = 40 ∨ a = 115 then 0 else 1) + wfB l := rfl
        rw [if_neg vn]
        by_cases c2 : a = 115
        · rw [if_pos (Or.inr c2)] at eB
          rw [if_pos c2, if_pos (by omega)]
          show some (wfB (a :: l) + 1) = some (wfB l + 1)
          rw [eB, Nat.zero_add]
        · rw [if_neg (fun z => z.elim a40 c2)] at eB
          rw [if_neg c2, if_pos (by omega)]
          show some (wfB (a :: l) + 1 - 1) = some (wfB l + 1)
          congr 1
          omega
      · rw [wfN_app]
        have e1 : wfN [(a, (0 : Int32))] = 0 := by
          show (if wfP a = true then 1 else 0) + 0 = 0
          rw [if_neg vn]
        omega
theorem wf_head {t : Nat} (ht : t = 0) : ∀ (st : List Nat) (out : List (Nat × Int32)), wfB (fCls t out st).2.tail = wfB (fCls t out st).2 := by
  intro st
  induction st with
  | nil => intro out; rfl
  | cons a l ih =>
    intro out
    by_cases c : a = 40 ∨ fTg a < t
    · have e : fCls t out (a :: l) = (out, a :: l) := if_pos c
      have a40 : a = 40 := c.elim id (fun z => by omega)
      rw [e, a40]
      show wfB l = (if 40 = 40 ∨ 40 = 115 then 0 else 1) + wfB l
      rw [if_pos (Or.inl rfl), Nat.zero_add]
    · have e : fCls t out (a :: l) = fCls t (out ++ [(a, 0)]) l := if_neg c
      rw [e]
      exact ih _
theorem wf_noB : ∀ (st : List Nat) (out : List (Nat × Int32)), fHasB st = false → (fCls 0 out st).2 = [] := by
  intro st
  induction st with
  | nil => intro out _; rfl
  | cons a l ih =>
    intro out h
    have h1 : ¬ a = 40 := fun z => by rw [z] at h; simp [fHasB] at h
    have h2 : fHasB l = false := by
      simp only [fHasB, List.contains_cons, Bool.or_eq_false_iff] at h ⊢
      exact h.2
    have e : fCls 0 out (a :: l) = fCls 0 (out ++ [(a, 0)]) l := if_neg (fun z => z.elim h1 (fun q => by omega))
    rw [e]
    exact ih _ h2
theorem sy_wf {K : Nat → Nat} {N : Nat → Int32} : ∀ (m : Nat) (b : Bool) (i : Nat) (out : List (Nat × Int32)) (st : List Nat) (own : Nat) {j own' : Nat} {out' : List (Nat × Int32)}, sy K N m b i out st own = some (0, j, out', own') → (∀ a ∈ st, wfV a) → wfS out 0 = some (wfB st + (if b = true then 0 else 1)) → wfN out ≤ own → (∀ x ∈ out, okK x.1) → WFo out' own' := by
  intro m
  induction m with
  | zero => intro b i out st own j own' out' h; cases h
  | succ m ih =>
    intro b i out st own j own' out' h hv h1 h2 ho
    have nf : ∀ k, ¬ fFl k = 0 := fun k z => by unfold fFl at z; by_cases e : k = 1 <;> simp [e] at z
    have bad : ∀ k (z : Nat), some (fFl k, z, ([] : List (Nat × Int32)), 0) = some (0, j, out', own') → False := fun k z q => by
      injection q with q
      exact nf k (congrArg (fun u => u.1) q)
    cases b with
    | true =>
      rw [if_pos rfl] at h1
      simp only [sy] at h
      by_cases c1 : K i = 115 ∧ fMay st = true
      · rw [if_pos c1] at h
        by_cases c2 : 6 < fDp st
        · rw [if_pos c2] at h; exact (bad _ _ h).elim
        · rw [if_neg c2] at h
          refine ih true _ _ _ _ h (fun a ha => ?_) ?_ h2 ho
          · rcases List.mem_cons.mp ha with e | e
            · exact Or.inr (Or.inl e)
            · exact hv a e
          · rw [if_pos rfl, h1]
            show some (wfB st + 0) = some ((if 115 = 40 ∨ 115 = 115 then 0 else 1) + wfB st + 0)
            rw [if_pos (Or.inr rfl), Nat.zero_add]
      · rw [if_neg c1] at h
        by_cases c2 : K i = 40
        · rw [if_pos c2] at h
          by_cases c3 : own = 30 ∨ 6 < fDp st
          · rw [if_pos c3] at h; exact (bad _ _ h).elim
          · rw [if_neg c3] at h
            refine ih true _ _ _ _ h (fun a ha => ?_) ?_ (by omega) ho
            · rcases List.mem_cons.mp ha with e | e
              · exact Or.inl e
              · exact hv a e
            · rw [if_pos rfl, h1]
              show some (wfB st + 0) = some ((if 40 = 40 ∨ 40 = 115 then 0 else 1) + wfB st + 0)
              rw [if_pos (Or.inl rfl), Nat.zero_add]
        · rw [if_neg c2] at h
          by_cases c3 : fOp (K i) = true ∧ own ≠ 30
          · rw [if_pos c3] at h
            have p : wfP (K i) = true := c3.1
            refine ih false _ _ _ _ h hv ?_ ?_ (okK_app ho (fun x hx => by rw [List.mem_singleton.mp hx]; exact Or.inl p))
            · rw [wfS_app _ _ _ _ h1]
              show (if wfP (K i) = true then wfS [] (wfB st + 0 + 1) else _) = some (wfB st + (if false = true then 0 else 1))
              rw [if_pos p]
              rfl
            · rw [wfN_app]
              have e1 : wfN [(K i, if K i = 2 then N i else 0)] = 1 := by
                show (if wfP (K i) = true then 1 else 0) + 0 = 1
                rw [if_pos p]
              omega
          · rw [if_neg c3] at h; exact (bad _ _ h).elim
    | false =>
      have h1 : wfS out 0 = some (wfB st + 1) := h1
      simp only [sy] at h
      by_cases c1 : K i = 41 ∧ fHasB st = true
      · rw [if_pos c1] at h
        obtain ⟨q1, q2, q3, q4⟩ := wf_cls (t := 0) st out own hv h1 h2 ho
        refine ih false _ _ _ _ h (fun a ha => q3 a (List.mem_of_mem_tail ha)) ?_ q2 q4
        rw [wf_head rfl]
        exact q1
      · rw [if_neg c1] at h
        by_cases c2 : fSg (K i) = true ∧ ¬ (fTg (K i) = 4 ∧ fHasR st = true)
        · rw [if_pos c2] at h
          obtain ⟨q1, q2, q3, q4⟩ := wf_cls (t := fTg (K i)) st out own hv h1 h2 ho
          obtain ⟨g1, g2, g3⟩ := wf_sg' c2.1
          refine ih true _ _ _ _ h (fun a ha => ?_) ?_ q2 q4
          · rcases List.mem_cons.mp ha with e | e
            · rw [e]; exact Or.inr (Or.inr c2.1)
            · exact q3 a e
          · rw [q1, if_pos rfl]
            show _ = some ((if K i = 40 ∨ K i = 115 then 0 else 1) + wfB (fCls (fTg (K i)) out st).2 + 0)
            rw [if_neg (fun z => z.elim g2 g3)]
            congr 1
            omega
        · rw [if_neg c2] at h
          by_cases c3 : fHasB st = true
          · rw [if_pos c3] at h; exact (bad _ _ h).elim
          · rw [if_neg c3] at h
            obtain ⟨q1, q2, q3, q4⟩ := wf_cls (t := 0) st out own hv h1 h2 ho
            rw [wf_noB st out (Bool.eq_false_iff.mpr c3)] at q1
            injection h with h
            have e1 := congrArg (fun u => u.2.2.1) h
            have e2 := congrArg (fun u => u.2.2.2) h
            have e1 : (fCls 0 out st).1 = out' := e1
            have e2 : own = own' := e2
            rw [← e1, ← e2]
            exact ⟨q1, q2, q4⟩
end
section
section
variable {NF : Nat}
theorem XS.start {c : Nat → Nat} {n i : Nat} {v : Nat → Int32} {f : Nat → Nat → Int32} (C : CX c n i v) (h16 : v 16 = 0) (h17 : v 17 = 0) : XS c n v f v f i [] 0 := ⟨C, fun _ _ _ _ _ _ _ => rfl, fun _ _ _ => rfl, h16, h17, fun j hj => absurd hj (by simp)⟩
theorem YR.start {c : Nat → Nat} {n i : Nat} {v v2 : Nat → Int32} {f : Nat → Nat → Int32} {w : Int64} (C : CY c n i v2 w) (h : ∀ k, k ≠ 3 → k ≠ 5 → k ≠ 6 → k ≠ 7 → v2 k = v k) (h11 : v 11 = 0) : YR c n (upd v 15 1) f (upd (upd (upd (upd (upd v2 15 1) 8 0) 10 0) 14 0) 13 0) f w i [] [] 0 := by
  obtain ⟨c1, c2, c3, c4, c5⟩ := C
  have U : ∀ k, k ≠ 15 → k ≠ 8 → k ≠ 10 → k ≠ 14 → k ≠ 13 → upd (upd (upd (upd (upd v2 15 1) 8 0) 10 0) 14 0) 13 0 k = v2 k := fun k a b d e z => (pk_un z).trans ((pk_un e).trans ((pk_un d).trans ((pk_un b).trans (pk_un a))))
  refine ⟨⟨(U 6 (by decide) (by decide) (by decide) (by decide) (by decide)).trans c1, (U 5 (by decide) (by decide) (by decide) (by decide) (by decide)).trans c2, fun z => (U 3 (by decide) (by decide) (by decide) (by decide) (by decide)).trans (c3 z), fun z => (U 7 (by decide) (by decide) (by decide) (by decide) (by decide)).trans (c4 z), c5⟩, fun k k3 k5 k6 k7 k8 k10 k11 k13 k14 => ?_, fun _ _ _ _ => rfl, (pk_un (by decide)).trans ((pk_un (by decide)).trans ((pk_un (by decide)).trans pk_us)), (pk_un (by decide)).trans ((pk_un (by decide)).trans pk_us), (U 11 (by decide) (by decide) (by decide) (by decide) (by decide)).trans ((h 11 (by decide) (by decide) (by decide) (by decide)).trans h11), pk_us, (pk_un (by decide)).trans pk_us, fun j hj => absurd hj (by simp), trivial⟩
  by_cases e : k = 15
  · rw [e, pk_un (by decide), pk_un (by decide), pk_un (by decide), pk_un (by decide), pk_us, pk_us]
  · rw [U k e k8 k10 k14 k13, pk_un e, h k k3 k5 k6 k7]
theorem formPair {c : Nat → Nat} {n i : Nat} {v v1 : Nat → Int32} {f f1 : Nat → Nat → Int32} {w1 : Int64} {g : Nat → Int64} (hc : ∀ k, k < n → c k < 256) (T : TX c n v f) (T1 : TY c n v1 f1) (C : CX c n (i + 1) v) (h16 : v 16 = 0) (h17 : v 17 = 0) (C1 : CY c n i v1 w1) (hk1 : tk_k c n i ≠ 1) (hf : v1 1 = 0) (h11 : v1 11 = 0) :
    (∃ (v' : Nat → Int32) (f' : Nat → Nat → Int32) (v2 : Nat → Int32) (f2 : Nat → Nat → Int32) (w2 : Int64) (j own : Nat) (out : List (Nat × Int32)), gsX_X6_expression_1 NF v f = (1, v', f') ∧ gsY_X11_formula_1 NF v1 f1 w1 g = (v2, f2, w2, g) ∧ XS c n v f v' f' j out own ∧ YR c n (upd v1 15 1) f1 v2 f2 w2 j out [] own ∧ own ≤ 30 ∧ out.length ≤ 270 ∧ WFo out own) ∨
    (∃ (v' : Nat → Int32) (f' : Nat → Nat → Int32) (v2 : Nat → Int32) (f2 : Nat → Nat → Int32) (w2 : Int64) (s j : Nat), gsX_X6_expression_1 NF v f = (0, v', f') ∧ gsY_X11_formula_1 NF v1 f1 w1 g = (v2, f2, w2, g) ∧ XF c n v f v' f' s j ∧ YF c n (upd v1 15 1) f1 v2 f2 s j ∧ 0 < s ∧ s < 100) := by
  obtain ⟨v2, w2, e2, c2, r2⟩ := tokY (NF := NF) (i := i) (w := w1) (g := g) T1 (C1.2.2.1 hk1)
  have T2 : TY c n (upd v1 15 1) f1 := T1.upd (by decide)
  have h0 : upd v1 15 1 1 = 0 := (pk_un (by decide)).trans hf
  have y2 := YR.start (f := f1) c2 r2 h11
  have fin : ∀ (m : Nat) (res : Nat × Nat × List (Nat × Int32) × Nat), sy (tk_k c n) (tk_n c n) m true (i + 1) [] [] 0 = some res → YFIN c n (upd v1 15 1) f1 g (gsY_X11_formula_1 NF v1 f1 w1 g) res := fun m res hs => by
    have e : gsY_X11_formula_1 NF v1 f1 w1 g = (match gsY_X11_unit_1 NF (upd (upd (upd (upd (upd v2 15 1) 8 0) 10 0) 14 0) 13 0) f1 w2 g with | (v12, f13, w14, g15) => gsY_X11_formula_1_L20 NF (4294967296 + NF) 1 v12 f13 w14 g15) := by
      unfold gsY_X11_formula_1
      rw [e2]
    rw [e]
    unfold gsY_X11_unit_1
    rcases yUnit (NF := NF) (g := g) T2 hc h0 (4294967296 + NF) m (i + 1) 0 [] [] _ f1 w2 y2 (by decide) (by decide) (by decide) (by omega) hs with ⟨m', i', o', s', w', a1, a2, a3, b1, b2, b3, b4, b5, b6, b7, b8⟩ | ⟨s, j, a1, a2, a3, b1, b2, b3, b4, b5⟩
    · simp only [b1]
      exact yLoop (NF := NF) T2 hc h0 (4294967296 + NF) m' i' w' o' s' a1 a2 a3 b2 b5 b6 b8 (by omega) b3
    · simp only [b4]
      obtain ⟨M, hM⟩ : ∃ M, 4294967296 + NF = M + 1 := ⟨4294967295 + NF, by omega⟩
      rw [hM]
      exact Or.inr ⟨s, j, a1, a2, a3, b1, b2, b3, yL_f b5.1 b2 b3 M, b5⟩
  rcases s_all0 (NF := NF) T hc v f (i + 1) [] [] 0 (XS.start C h16 h17) rfl (Or.inl rfl) (fun z => absurd z (by decide)) (by decide) (by decide) with ⟨v3, f3, i3, o3, P, w3, e3, x3, ⟨k3, s3⟩, p3, j3, r3, a3, b3, q3⟩ | ⟨v3, f3, s, j, e3, x3, s0, s2, k3, s3⟩
  · have hk3 := tk_lt hc i3
    have pP : ∀ a ∈ P, a ≠ 40 := fun a ha => (p3 a ha).1
    have hB : fHasB P = false := by
      apply Bool.eq_false_iff.mpr
      intro z
      simp only [fHasB, List.contains_eq_mem, decide_eq_true_eq] at z
      exact pP 40 z rfl
    rw [List.append_nil] at s3 r3 q3
    have hs := (s3 1).trans (sy_stN (m := 0) (own := w3) (out := o3) (fun z => z.2 ⟨(nJ_0 _ hk3 j3 z.1).2, r3 (by decide) (nJ_0 _ hk3 j3 z.1).1⟩) hB)
    rw [fCls0_N o3 hB] at hs
    rw [fNb_P pP] at q3
    have hwf := sy_wf _ _ _ _ _ _ hs (fun a ha => absurd ha (List.not_mem_nil)) rfl (Nat.zero_le _) (fun x hx => absurd hx (List.not_mem_nil))
    rcases fin _ _ hs with ⟨j, out', own', v', f', w', z1, z2, z3⟩ | ⟨s, j, a1, a2, a3, b1, b2, b3, b4, b5⟩
    · injection z1 with z0 z1
      injection z1 with z1 z4
      injection z4 with z4 z5
      subst z1 z4 z5
      exact Or.inl ⟨v3, f3, v', f', w', _, _, _, e3, z2, x3, z3, b3, by rw [List.length_append, fMp_len]; omega, hwf⟩
    · injection b1 with z0 z1
      omega
  · have hs := s3 0
    rcases fin _ _ hs with ⟨j', out', own', v', f', w', z1, z2, z3⟩ | ⟨s', j', a1, a2, a4, b1, b2, b3, b4, b5⟩
    · injection z1 with z0 z1
      omega
    · injection b1 with z0 z1
      injection z1 with z1 z4
      subst z0 z1
      exact Or.inr ⟨v3, f3, a1, a2, a4, _, _, e3, b4, x3, b5, s0, b3⟩
end
end
section
section
variable {NF : Nat}
theorem nx_n {c : Nat → Nat} : ∀ (k p X j : Nat), (∀ i, i < k → lx_d (c (p + i)) = true) → X < 10 ^ j → j + k ≤ 6 → ∃ M, M < 10 ^ (j + k) ∧ nxF c k p (nI X) = nI M := by
  intro k
  induction k with
  | zero => intro p X j _ hX _; exact ⟨X, hX, rfl⟩
  | succ k ih =>
    intro p X j hd hX hj
    have hd0 := hd 0 (by omega)
    rw [Nat.add_zero] at hd0
    have hr : 48 ≤ c p ∧ c p ≤ 57 := by simpa [lx_d] using hd0
    have e : nI X * 10 + sb_b (c p) - 48 = nI (X * 10 + (c p - 48)) := by
      rw [cl_dn (c p) (by omega) hd0, show nI X * 10 = nI (X * 10) from pk_mul X 10, nI_add, show nI (X * 10 + c p) - 48 = nI (X * 10 + c p) - nI 48 from rfl, pk_sub (by omega)]
      congr 1
      omega
    have hX' : X * 10 + (c p - 48) < 10 ^ (j + 1) := by rw [Nat.pow_succ]; omega
    obtain ⟨M, h1, h2⟩ := ih (p + 1) (X * 10 + (c p - 48)) (j + 1) (fun i hi => by rw [show p + 1 + i = p + (i + 1) by omega]; exact hd (i + 1) (by omega)) hX' (by omega)
    exact ⟨M, by rw [show j + (k + 1) = j + 1 + k by omega]; exact h1, by show nxF c k (p + 1) (nI X * 10 + sb_b (c p) - 48) = _; rw [e]; exact h2⟩
theorem tok_num {c : Nat → Nat} {n p : Nat} (hc : ∀ k, k < n → c k < 256) (h : tK c n p = 2) : ∃ M, M < 10000 ∧ tN c n p = nI M := by
  have h' := h
  unfold tK at h
  by_cases e1 : n ≤ p
  · rw [if_pos e1] at h; exact absurd h (by decide)
  · rw [if_neg e1] at h
    by_cases hl : lx_l (c p) = true
    · rw [if_pos hl] at h
      by_cases h8 : 8 < tE c n p - p
      · rw [if_pos h8] at h; exact absurd h (by decide)
      · rw [if_neg h8] at h
        rcases lx_k_W c p (tE c n p - p) with q | q <;> omega
    · rw [if_neg hl] at h
      by_cases hd : lx_d (c p) = true
      · rw [if_pos hd] at h
        by_cases h4 : 4 < tE c n p - p ∨ (tE c n p < n ∧ lx_l (c (tE c n p)) = true)
        · rw [if_pos h4] at h; exact absurd h (by decide)
        · have hE : tE c n p = lx_c lx_d c n p := by unfold tE; rw [if_neg e1, if_neg hl, if_pos hd]
          obtain ⟨M, h1, h2⟩ := nx_n (c := c) (tE c n p - p) p 0 0 (fun i hi => (lx_cin (P := lx_d) (n := n) (p := p) (by omega) (show p + i < lx_c lx_d c n p by omega)).2) (by decide) (by omega)
          refine ⟨M, ?_, h2⟩
          have : 10 ^ (0 + (tE c n p - p)) ≤ 10 ^ 4 := Nat.pow_le_pow_right (by decide) (by omega)
          have : (10 : Nat) ^ 4 = 10000 := by decide
          omega
      · rw [if_neg hd] at h
        by_cases hs : lx_s (c p) = true
        · rw [if_pos hs] at h
          obtain ⟨_, _, _, s4, _⟩ := sgS (c p) (hc p (by omega)) hs
          exact absurd h s4
        · rw [if_neg hs] at h; exact absurd h (by decide)
def TP (c : Nat → Nat) (n i : Nat) (v : Nat → Int32) (f : Nat → Nat → Int32) (v1 : Nat → Int32) (f1 : Nat → Nat → Int32) (w1 : Int64) : Prop := TX c n v f ∧ TY c n v1 f1 ∧ CX c n i v ∧ CY c n i v1 w1 ∧ v1 1 = 0
def X4 (v v' : Nat → Int32) : Prop := ∀ k, k ≠ 2 → k ≠ 3 → k ≠ 4 → k ≠ 5 → v' k = v k
def Y4 (v v' : Nat → Int32) : Prop := ∀ k, k ≠ 3 → k ≠ 5 → k ≠ 6 → k ≠ 7 → v' k = v k
def X6 (v v' : Nat → Int32) : Prop := ∀ k, k ≠ 2 → k ≠ 3 → k ≠ 4 → k ≠ 5 → k ≠ 7 → k ≠ 8 → v' k = v k
def Y6 (v v' : Nat → Int32) : Prop := ∀ k, k ≠ 1 → k ≠ 2 → k ≠ 3 → k ≠ 5 → k ≠ 6 → k ≠ 7 → v' k = v k
def FP (c : Nat → Nat) (n : Nat) (v v' v1 v1' : Nat → Int32) : Prop := ∃ s j, 0 < s ∧ s < 100 ∧ v' 7 = nI s ∧ v1' 1 = nI s ∧ v' 8 = nI (tk_p c n j) ∧ v1' 2 = nI (tk_p c n j) ∧ X6 v v' ∧ Y6 v1 v1'
theorem X4.tr {a b d : Nat → Int32} (h : X4 a b) (k : X4 b d) : X4 a d := fun q q2 q3 q4 q5 => (k q q2 q3 q4 q5).trans (h q q2 q3 q4 q5)
theorem Y4.tr {a b d : Nat → Int32} (h : Y4 a b) (k : Y4 b d) : Y4 a d := fun q q2 q3 q4 q5 => (k q q2 q3 q4 q5).trans (h q q2 q3 q4 q5)
theorem FP.tr {c : Nat → Nat} {n : Nat} {v v' v'' v1 v1' v1'' : Nat → Int32} (h : X4 v v') (h1 : Y4 v1 v1') (k : FP c n v' v'' v1' v1'') : FP c n v v'' v1 v1'' := by
  obtain ⟨s, j, a, b, d, e, z, y, x1, y1⟩ := k
  exact ⟨s, j, a, b, d, e, z, y, fun q q2 q3 q4 q5 q7 q8 => (x1 q q2 q3 q4 q5 q7 q8).trans (h q q2 q3 q4 q5), fun q q1 q2 q3 q5 q6 q7 => (y1 q q1 q2 q3 q5 q6 q7).trans (h1 q q3 q5 q6 q7)⟩
section
variable {c : Nat → Nat} {n i : Nat} {v : Nat → Int32} {f : Nat → Nat → Int32} {v1 : Nat → Int32} {f1 : Nat → Nat → Int32} {w1 : Int64} {g : Nat → Int64}
theorem TP.adv (h : TP c n i v f v1 f1 w1) (hk : tk_k c n i ≠ 1) : ∃ v' v1' w1', gsX_X9_advance_1 NF v f = (v', f) ∧ gsY_X11_token_1 NF v1 f1 w1 g = (v1', f1, w1', g) ∧ TP c n (i + 1) v' f v1' f1 w1' ∧ X4 v v' ∧ Y4 v1 v1' := by
  obtain ⟨T, T1, C, C1, hf⟩ := h
  obtain ⟨v', e, a, b⟩ := advX (NF := NF) (i := i) T C.2.2.1
  obtain ⟨v1', w1', e1, a1, b1⟩ := tokY (NF := NF) (i := i) (w := w1) (g := g) T1 (C1.2.2.1 hk)
  exact ⟨v', v1', w1', e, e1, ⟨T.of (b 1 (by decide) (by decide) (by decide) (by decide)) rfl, T1.of (b1 4 (by decide) (by decide) (by decide) (by decide)) rfl, a, a1, (b1 1 (by decide) (by decide) (by decide) (by decide)).trans hf⟩, b, b1⟩
theorem TP.fail (hc : ∀ k, k < n → c k < 256) (h : TP c n i v f v1 f1 w1) {s : Nat} (h0 : 0 < s) (hs : s < 100) (hk : tk_k c n i ≠ 1 ∨ s = 2) : gsX_X6_refuseAs_1 NF (nI (if tk_k c n i = 1 then 1 else s)) v f = (0, upd (upd v 7 (nI (if tk_k c n i = 1 then 1 else s))) 8 (nI (tk_p c n i)), f) ∧ gsY_X11_wrong_1 NF (nI s) v1 f1 w1 g = (upd (upd v1 1 (nI (if tk_k c n i = 1 then 1 else s))) 2 (nI (tk_p c n i)), f1, w1, g) ∧ FP c n v (upd (upd v 7 (nI (if tk_k c n i = 1 then 1 else s))) 8 (nI (tk_p c n i))) v1 (upd (upd v1 1 (nI (if tk_k c n i = 1 then 1 else s))) 2 (nI (tk_p c n i))) := by
  obtain ⟨T, T1, C, C1, hf⟩ := h
  have hk' := tk_lt hc i
  refine ⟨?_, ?_, (if tk_k c n i = 1 then 1 else s), i, ?_, ?_, (pk_un (by decide)).trans pk_us, (pk_un (by decide)).trans pk_us, pk_us, pk_us, fun q q2 q3 q4 q5 q7 q8 => (pk_un q8).trans (pk_un q7), fun q q1 q2 q3 q5 q6 q7 => (pk_un q2).trans (pk_un q1)⟩
  · simp only [gsX_X6_refuseAs_1, C.2.1]
  · simp only [gsY_X11_wrong_1, hf, C1.1, C1.2.1]
    rw [if_pos (show (0 : Int32) ≤ 0 by decide)]
    by_cases e : tk_k c n i = 1
    · rw [if_pos ((tS3 _ hk').mpr e), if_pos e]; rfl
    · rw [if_neg (fun z => e ((tS3 _ hk').mp z)), if_neg e]
  · by_cases e : tk_k c n i = 1
    · rw [if_pos e]; decide
    · rw [if_neg e]; exact h0
  · by_cases e : tk_k c n i = 1
    · rw [if_pos e]; decide
    · rw [if_neg e]; exact hs
theorem xRef (hc : ∀ k, k < n → c k < 256) (C : CX c n i v) : gsX_X6_refuse_1 NF v f = gsX_X6_refuseAs_1 NF (nI (if tk_k c n i = 1 then 1 else 2)) v f := by
  have hk' := tk_lt hc i
  simp only [gsX_X6_refuse_1, gsX_X6_refuseAs_1, C.1, ite01]
  by_cases e : tk_k c n i = 1
  · rw [if_pos (by rw [e]; rfl), if_pos e]; rfl
  · rw [if_neg (nlit 1 1 rfl (by omega) (by decide) e), if_neg e]; rfl
theorem TP.ref (hc : ∀ k, k < n → c k < 256) (h : TP c n i v f v1 f1 w1) : ∃ v' v1', gsX_X6_refuse_1 NF v f = (0, v', f) ∧ gsY_X11_wrong_1 NF 2 v1 f1 w1 g = (v1', f1, w1, g) ∧ FP c n v v' v1 v1' ∧ (∃ s, 0 < s ∧ s < 100 ∧ v1' 1 = nI s) := by
  obtain ⟨a, b, d⟩ := TP.fail (NF := NF) (g := g) hc h (s := 2) (by decide) (by decide) (Or.inr rfl)
  refine ⟨_, _, (xRef hc h.2.2.1).trans a, b, d, ?_⟩
  obtain ⟨s, j, h1, h2, h3, h4, _⟩ := d
  exact ⟨s, h1, h2, h4⟩
theorem numPair (hc : ∀ k, k < n → c k < 256) (h : TP c n i v f v1 f1 w1) (mo : Int32) : (∃ (v' v1' : Nat → Int32) (w1' : Int64) (x : Int32), gsX_X6_numbered_1 NF mo v f = (x, v', f) ∧ gsY_X11_toldNumber_1 NF 0 mo v1 f1 w1 g = (x, v1', f1, w1', g) ∧ TP c n (i + 1) v' f v1' f1 w1' ∧ (0 ≤ x ∧ x ≤ mo) ∧ X4 v v' ∧ Y4 v1 v1') ∨ (∃ (v' v1' : Nat → Int32) (w1' : Int64) (y : Int32), gsX_X6_numbered_1 NF mo v f = (-1, v', f) ∧ gsY_X11_toldNumber_1 NF 0 mo v1 f1 w1 g = (y, v1', f1, w1', g) ∧ FP c n v v' v1 v1') := by
  have hk := tk_lt hc i
  obtain ⟨T, T1, C, C1, hf⟩ := h
  obtain ⟨t40, t2, _, _, _⟩ := tS40 _ hk
  simp only [gsX_X6_numbered_1, gsY_X11_toldNumber_1, C.1, C1.2.1, hf]
  rw [if_pos (show (0 : Int32) ≤ 0 by decide)]
  by_cases e2 : tk_k c n i = 2
  · obtain ⟨M, hM, hN⟩ := tok_num hc (show tK c n (tk_p c n i) = 2 from e2)
    have e5 : v 5 = nI M := (C.2.2.2 e2).trans hN
    have e7 : v1 7 = nI M := (C1.2.2.2.1 e2).trans hN
    rw [if_pos (by rw [e2]; rfl), if_pos (t2.mpr e2), e5, e7, if_neg (nI_pos (by omega))]
    by_cases hm : nI M ≤ mo
    · obtain ⟨v', v1', w1', a1, a2, a3, a4, a5⟩ := TP.adv (NF := NF) (g := g) ⟨T, T1, C, C1, hf⟩ (by omega)
      rw [if_pos hm, if_pos hm, if_pos trivial, a1, a2]
      exact Or.inl ⟨v', v1', w1', nI M, rfl, rfl, a3, ⟨nI_pos' (by omega), hm⟩, a4, a5⟩
    · obtain ⟨a, b, d⟩ := TP.fail (NF := NF) (g := g) hc ⟨T, T1, C, C1, hf⟩ (s := 4) (by decide) (by decide) (Or.inl (by omega))
      rw [if_neg (show ¬ tk_k c n i = 1 by omega)] at a b d
      have a : gsX_X6_refuseAs_1 NF 4 v f = _ := a
      have b : gsY_X11_wrong_1 NF 4 v1 f1 w1 g = _ := b
      rw [if_neg hm, if_neg hm, a, b]
      refine Or.inr ⟨_, _, w1, upd (upd v1 1 (nI 4)) 2 (nI (tk_p c n i)) 7, rfl, ?_, d⟩
      show (if upd (upd v1 1 (nI 4)) 2 (nI (tk_p c n i)) 1 = 0 then _ else _) = _
      rw [pk_un (show (1 : Nat) ≠ 2 by decide), pk_us, if_neg (show ¬ nI 4 = 0 by decide)]
  · obtain ⟨v', v1', a, b, d, s, s0, s1, s2⟩ := TP.ref (NF := NF) (g := g) hc ⟨T, T1, C, C1, hf⟩
    rw [if_neg (nlit 2 2 rfl (by omega) (by decide) e2), if_neg (fun z => e2 (t2.mp z)), a, b]
    refine Or.inr ⟨v', v1', w1, v1' 7, rfl, ?_, d⟩
    show (if v1' 1 = 0 then _ else _) = _
    rw [s2, if_neg (nI_ne0 s0 (by omega))]
theorem told_f {j : Int64} {mo : Int32} {s : Nat} (h1 : v1 1 = nI s) (h0 : 0 < s) (hs : s < 100) : gsY_X11_told_1 NF j mo v1 f1 w1 g = (0, v1, f1, w1, g) := by
  simp only [gsY_X11_told_1, gsY_X11_want_1, gsY_X11_toldNumber_1, h1]
  rw [if_neg (nI_nle h0 (by omega))]
  simp only [h1]
  rw [if_neg (nI_nle h0 (by omega))]
theorem labPair (hc : ∀ k, k < n → c k < 256) (h : TP c n i v f v1 f1 w1) {k : Nat} (hk1 : 101 ≤ k) (hk2 : k ≤ 121) {j : Int64} (hj : j = wC k) (mo : Int32) : (∃ (v' v1' : Nat → Int32) (w1' : Int64) (x : Int32), gsX_X6_labelled_1 NF (nI k) mo v f = (x, v', f) ∧ gsY_X11_told_1 NF j mo v1 f1 w1 g = (x, v1', f1, w1', g) ∧ TP c n (i + 2) v' f v1' f1 w1' ∧ (0 ≤ x ∧ x ≤ mo) ∧ X4 v v' ∧ Y4 v1 v1') ∨ (∃ (v' v1' : Nat → Int32) (w1' : Int64) (y : Int32), gsX_X6_labelled_1 NF (nI k) mo v f = (-1, v', f) ∧ gsY_X11_told_1 NF j mo v1 f1 w1 g = (y, v1', f1, w1', g) ∧ FP c n v v' v1 v1') := by
  have hk := tk_lt hc i
  have h' := h
  obtain ⟨T, T1, C, C1, hf⟩ := h
  by_cases e : tk_k c n i = k
  · obtain ⟨v', v1', w1', a1, a2, a3, a4, a5⟩ := TP.adv (NF := NF) (g := g) h' (by omega)
    have eL : gsX_X6_labelled_1 NF (nI k) mo v f = gsX_X6_numbered_1 NF mo v' f := by
      simp only [gsX_X6_labelled_1, C.1]
      rw [if_pos (by rw [e]), a1]
    have eT : gsY_X11_told_1 NF j mo v1 f1 w1 g = gsY_X11_toldNumber_1 NF 0 mo v1' f1 w1' g := by
      simp only [gsY_X11_told_1, gsY_X11_want_1, hf, yIsW hc C1 hk1 hk2 hj]
      rw [if_pos (show (0 : Int32) ≤ 0 by decide), if_pos e, ite11, a2]
    rw [eL, eT]
    rcases numPair (NF := NF) (g := g) hc a3 mo with ⟨v2, v3, w3, x, b1, b2, b3, b4, b5, b6⟩ | ⟨v2, v3, w3, y, b1, b2, b3⟩
    · exact Or.inl ⟨v2, v3, w3, x, b1, b2, b3, b4, a4.tr b5, a5.tr b6⟩
    · exact Or.inr ⟨v2, v3, w3, y, b1, b2, b3.tr a4 a5⟩
  · obtain ⟨v', v1', a, b, d, s, s0, s1, s2⟩ := TP.ref (NF := NF) (g := g) hc h'
    have eL : gsX_X6_labelled_1 NF (nI k) mo v f = (-1, v', f) := by
      simp only [gsX_X6_labelled_1, C.1]
      rw [if_neg (fun z => e ((nI_eq (by omega) (by omega)).mp z)), a]
      exact ite01
    have eT : gsY_X11_told_1 NF j mo v1 f1 w1 g = (0, v1', f1, w1, g) := by
      simp only [gsY_X11_told_1, gsY_X11_want_1, hf, yIsW hc C1 hk1 hk2 hj]
      rw [if_pos (show (0 : Int32) ≤ 0 by decide), if_neg e, ite01, b]
      simp only [gsY_X11_toldNumber_1, s2]
      rw [if_neg (nI_nle s0 (by omega))]
    exact Or.inr ⟨v', v1', w1, 0, eL, eT, d⟩
end
end
end
