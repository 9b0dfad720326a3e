section
variable {NF : Nat}
def TY (c : Nat → Nat) (n : Nat) (v : Nat → Int32) (f : Nat → Nat → Int32) : Prop := v 4 = nI n ∧ n ≤ 1600 ∧ ∀ k, k < n → c k < 256 ∧ f 0 k = nI (c k)
theorem TY.upd {c : Nat → Nat} {n : Nat} {v : Nat → Int32} {f : Nat → Nat → Int32} (T : TY c n v f) {k : Nat} {x : Int32} (h : k ≠ 4) : TY c n (upd v k x) f := ⟨(pk_un (Ne.symm h)).trans T.1, T.2⟩
theorem TY.of {c : Nat → Nat} {n : Nat} {v v' : Nat → Int32} {f f' : Nat → Nat → Int32} (T : TY c n v f) (h : v' 4 = v 4) (hf : f' 0 = f 0) : TY c n v' f' := ⟨h.trans T.1, T.2.1, by rw [hf]; exact T.2.2⟩
theorem yHere {c : Nat → Nat} {n : Nat} {v : Nat → Int32} {f : Nat → Nat → Int32} (T : TY c n v f) (w : Int64) (g : Nat → Int64) {a k : Nat} (h3 : v 3 = nI a) (hk : a + k < 2 ^ 31) : gsY_X11_here_1 NF (nI k) v f w g = if a + k < n then nI (c (a + k)) else -1 := by
  obtain ⟨h1, hn, hc⟩ := T
  simp only [gsY_X11_here_1, h1, h3, nI_add]
  by_cases h : a + k < n
  · rw [if_neg (nI_ge h (by omega)), nI_clamp hk, (hc _ h).2, if_pos h]
  · rw [if_pos (nI_le (by omega) hk), if_neg h]
theorem yHere0 {c : Nat → Nat} {n : Nat} {v : Nat → Int32} {f : Nat → Nat → Int32} (T : TY c n v f) (w : Int64) (g : Nat → Int64) {a : Nat} (h3 : v 3 = nI a) (hk : a < 2 ^ 31) : gsY_X11_here_1 NF 0 v f w g = if a < n then nI (c a) else -1 := yHere T w g (k := 0) h3 hk
theorem yLet {c : Nat → Nat} {n : Nat} {v : Nat → Int32} {f : Nat → Nat → Int32} {v0 : Nat → Int32} (T : TY c n v0 f) (w : Int64) (g : Nat → Int64) (a : Nat) : gsY_X11_isLetter_1 NF (if a < n then nI (c a) else -1) v f w g = if a < n ∧ lx_l (c a) = true then 1 else 0 := by
  by_cases h : a < n
  · rw [if_pos h, show gsY_X11_isLetter_1 NF (nI (c a)) v f w g = (if nI (c a) < 97 then (0 : Int32) else if 122 < nI (c a) then 0 else 1) from rfl, yl_l (c a) (T.2.2 a h).1]
    by_cases q : lx_l (c a) = true
    · rw [if_pos q, if_pos ⟨h, q⟩]
    · rw [if_neg q, if_neg (fun z => q z.2)]
  · rw [if_neg h, if_neg (fun z => h z.1)]; rfl
theorem yDig {c : Nat → Nat} {n : Nat} {v : Nat → Int32} {f : Nat → Nat → Int32} {v0 : Nat → Int32} (T : TY c n v0 f) (w : Int64) (g : Nat → Int64) (a : Nat) : gsY_X11_isDigit_1 NF (if a < n then nI (c a) else -1) v f w g = if a < n ∧ lx_d (c a) = true then 1 else 0 := by
  by_cases h : a < n
  · rw [if_pos h, show gsY_X11_isDigit_1 NF (nI (c a)) v f w g = (if nI (c a) < 48 then (0 : Int32) else if 57 < nI (c a) then 0 else 1) from rfl, yl_d (c a) (T.2.2 a h).1]
    by_cases q : lx_d (c a) = true
    · rw [if_pos q, if_pos ⟨h, q⟩]
    · rw [if_neg q, if_neg (fun z => q z.2)]
  · rw [if_neg h, if_neg (fun z => h z.1)]; rfl
theorem yL20 {c : Nat → Nat} {n : Nat} {v1 v2 : Nat → Int32} {f : Nat → Nat → Int32} {g : Nat → Int64} {p : Nat} (T : TY c n v2 f) (h1 : v1 3 = nI p) (h2 : v2 3 = nI p) : ∀ (fu k : Nat) (w : Int64), p + k ≤ n → n - (p + k) < fu →
    gsY_X11_token_1_L20 NF v1 fu (nI k) v2 f w g = if lx_c lx_l c n (p + k) - p ≤ 8 then (upd (upd v2 5 1) 3 (nI (lx_c lx_l c n (p + k))), f, wvF c (min (lx_c lx_l c n (p + k) - p) 8 - k) (p + k) w, g) else (upd v2 5 3, f, wvF c (min (lx_c lx_l c n (p + k) - p) 8 - k) (p + k) w, g) := by
  intro fu
  have hn := T.2.1
  induction fu with
  | zero => intro k w _ h; exact absurd h (Nat.not_lt_zero _)
  | succ fu ih =>
    intro k w hk hm
    simp only [gsY_X11_token_1_L20, yHere T _ _ h2 (show p + k < 2 ^ 31 by omega), yLet T, nI_1, h1]
    by_cases h : p + k < n ∧ lx_l (c (p + k)) = true
    · have hg := lx_cge lx_l c n (p + k + 1)
      rw [if_pos h, ite11, lx_cs h.1 h.2]
      by_cases h8 : 8 ≤ k
      · rw [if_pos (show (8 : Int32) ≤ nI k from nI_le (a := 8) h8 (by omega)), ih (k + 1) w (by omega) (by omega)]
        rw [show p + (k + 1) = p + k + 1 by omega, show min (lx_c lx_l c n (p + k + 1) - p) 8 - (k + 1) = 0 by omega, show min (lx_c lx_l c n (p + k + 1) - p) 8 - k = 0 by omega]
        rfl
      · rw [if_neg (show ¬ (8 : Int32) ≤ nI k from nI_ge (b := 8) (by omega) (by omega)), if_pos h.1, ih (k + 1) _ (by omega) (by omega)]
        rw [show p + (k + 1) = p + k + 1 by omega, show min (lx_c lx_l c n (p + k + 1) - p) 8 - k = (min (lx_c lx_l c n (p + k + 1) - p) 8 - (k + 1)) + 1 by omega]
        rfl
    · rw [if_neg h, ite01, lx_c0 h, show p + k - p = k by omega, show min k 8 - k = 0 by omega, nI_add]
      by_cases h8 : k ≤ 8
      · rw [if_pos (show nI k ≤ (8 : Int32) from nI_le (b := 8) h8 (by omega)), if_pos h8]; rfl
      · rw [if_neg (show ¬ nI k ≤ (8 : Int32) from nI_ge (a := 8) (by omega) (by omega)), if_neg h8]; rfl
theorem yL47 {c : Nat → Nat} {n : Nat} {v1 : Nat → Int32} {f : Nat → Nat → Int32} {g : Nat → Int64} {p : Nat} (h1 : v1 3 = nI p) : ∀ (fu k : Nat) (v2 : Nat → Int32) (w : Int64), TY c n v2 f → v2 3 = nI p → p + k ≤ n → n - (p + k) < fu →
    ∃ v', (∀ j, j ≠ 7 → v' j = v2 j) ∧ (lx_c lx_d c n (p + k) - p ≤ 4 → v' 7 = nxF c (lx_c lx_d c n (p + k) - (p + k)) (p + k) (v2 7)) ∧
    gsY_X11_token_1_L47 NF v1 fu (nI k) v2 f w g = if 4 < lx_c lx_d c n (p + k) - p ∨ (lx_c lx_d c n (p + k) < n ∧ lx_l (c (lx_c lx_d c n (p + k))) = true) then (upd v' 5 3, f, w, g) else (upd (upd v' 5 2) 3 (nI (lx_c lx_d c n (p + k))), f, w, g) := by
  intro fu
  induction fu with
  | zero => intro k v2 w _ _ _ h; exact absurd h (Nat.not_lt_zero _)
  | succ fu ih =>
    intro k v2 w T h2 hk hm
    have hn := T.2.1
    by_cases h : p + k < n ∧ lx_d (c (p + k)) = true
    · have hg := lx_cge lx_d c n (p + k + 1)
      rw [lx_cs h.1 h.2]
      by_cases h4 : 4 ≤ k
      · obtain ⟨v', a, b, e⟩ := ih (k + 1) v2 w T h2 (by omega) (by omega)
        rw [show p + (k + 1) = p + k + 1 by omega] at b e
        refine ⟨v', a, fun z => by omega, ?_⟩
        simp only [gsY_X11_token_1_L47, yHere T _ _ h2 (show p + k < 2 ^ 31 by omega), yDig T, nI_1]
        rw [if_pos h, ite11, if_pos (show (4 : Int32) ≤ nI k from nI_le (a := 4) h4 (by omega))]
        exact e
      · obtain ⟨v', a, b, e⟩ := ih (k + 1) (upd v2 7 (10 * v2 7 + nI (c (p + k)) - 48)) w (T.upd (by decide)) ((pk_un (by decide)).trans h2) (by omega) (by omega)
        rw [show p + (k + 1) = p + k + 1 by omega] at b e
        refine ⟨v', fun j hj => (a j hj).trans (pk_un hj), fun z => ?_, ?_⟩
        · rw [b z, pk_us, show lx_c lx_d c n (p + k + 1) - (p + k) = (lx_c lx_d c n (p + k + 1) - (p + k + 1)) + 1 by omega]
          show _ = nxF c _ (p + k + 1) (v2 7 * 10 + sb_b (c (p + k)) - 48)
          rw [cl_dn _ (T.2.2 _ h.1).1 h.2, Int32.mul_comm]
        · simp only [gsY_X11_token_1_L47, yHere T _ _ h2 (show p + k < 2 ^ 31 by omega), yDig T, nI_1]
          rw [if_pos h, ite11, if_neg (show ¬ (4 : Int32) ≤ nI k from nI_ge (b := 4) (by omega) (by omega)), if_pos h.1]
          exact e
    · rw [lx_c0 h, show p + k - p = k by omega]
      refine ⟨v2, fun j _ => rfl, fun _ => by rw [Nat.sub_self]; rfl, ?_⟩
      simp only [gsY_X11_token_1_L47, yHere T _ _ h2 (show p + k < 2 ^ 31 by omega), yDig T, yLet T, nI_1, h1]
      rw [if_neg h, ite01, nI_add]
      by_cases h4 : 4 < k
      · rw [if_pos (show (4 : Int32) < nI k from nI_lt (a := 4) h4 (by omega)), if_pos (Or.inl h4)]
      · rw [if_neg (show ¬ (4 : Int32) < nI k from nI_nlt (a := 4) (by omega) (by omega))]
        by_cases h5 : p + k < n ∧ lx_l (c (p + k)) = true
        · rw [if_pos h5, ite11, if_pos (Or.inr h5)]
        · rw [if_neg h5, ite01, if_neg (fun z => z.elim h4 h5)]
def tS (k : Nat) : Nat := if k = 1 then 3 else if k = 3 ∨ 101 ≤ k then 1 else k
def TOK (c : Nat → Nat) (n p : Nat) (v v' : Nat → Int32) (w' : Int64) : Prop := (∀ k, k ≠ 3 → k ≠ 5 → k ≠ 6 → k ≠ 7 → v' k = v k) ∧ v' 6 = nI p ∧ v' 5 = nI (tS (tK c n p)) ∧ (tK c n p ≠ 1 → v' 3 = nI (tE c n p)) ∧ (tK c n p = 2 → v' 7 = tN c n p) ∧ (tS (tK c n p) = 1 → w' = tW c n p)
theorem yBl {c : Nat → Nat} {n : Nat} {f : Nat → Nat → Int32} {w : Int64} {g : Nat → Int64} : ∀ (fu pos : Nat) (v1 : Nat → Int32), TY c n v1 f → v1 3 = nI pos → pos ≤ n → n - pos < fu → ∃ (v' : Nat → Int32) (fu' : Nat), (∀ k, k ≠ 3 → v' k = v1 k) ∧ v' 3 = nI (lx_c lx_b c n pos) ∧ gsY_X11_token_1_L1 NF fu v1 f w g = gsY_X11_token_1_L1 NF (fu' + 1) v' f w g := by
  intro fu
  induction fu with
  | zero => intro pos v1 _ _ _ h; exact absurd h (Nat.not_lt_zero _)
  | succ fu ih =>
    intro pos v1 T h3 hpn hm
    have hn := T.2.1
    by_cases h : pos < n ∧ lx_b (c pos) = true
    · obtain ⟨v', fu', a, b, e⟩ := ih (pos + 1) (upd v1 3 (nI (pos + 1))) (T.upd (by decide)) pk_us (by omega) (by omega)
      refine ⟨v', fu', fun k hk => (a k hk).trans (pk_un hk), by rw [lx_cs h.1 h.2]; exact b, ?_⟩
      obtain ⟨b1, b2, _⟩ := yl_b (c pos) (T.2.2 pos h.1).1
      have b3 := (cl_b (c pos) (T.2.2 pos h.1).1).2.2.mp h.2
      rw [← e]
      simp only [gsY_X11_token_1_L1, yHere0 T _ _ h3 (show pos < 2 ^ 31 by omega)]
      rw [if_pos h.1, h3, nI_1]
      by_cases q : c pos = 32
      · rw [if_pos (b1.mpr q)]
      · rw [if_neg (fun z => q (b1.mp z)), if_pos (b2.mpr (b3.resolve_left q))]
    · exact ⟨v1, fu, fun k _ => rfl, by rw [lx_c0 h]; exact h3, rfl⟩
theorem ySg0 : ∀ c, c < 256 → gsY_X11_isSign_1 0 (nI c) zV zVV 0 (fun _ => 0) = if lx_s c = true then 1 else 0 := by decide +kernel
theorem ySg {v : Nat → Int32} {f : Nat → Nat → Int32} {w : Int64} {g : Nat → Int64} {c : Nat} (h : c < 256) : gsY_X11_isSign_1 NF (nI c) v f w g = if lx_s c = true then 1 else 0 := (show gsY_X11_isSign_1 NF (nI c) v f w g = gsY_X11_isSign_1 0 (nI c) zV zVV 0 (fun _ => 0) from rfl).trans (ySg0 c h)
theorem sgS : ∀ c, c < 256 → lx_s c = true → tS c = c ∧ ¬ nI c = 3 ∧ c ≠ 1 ∧ c ≠ 2 ∧ c ≠ 0 := by decide +kernel
theorem yTok {c : Nat → Nat} {n : Nat} {v : Nat → Int32} {f : Nat → Nat → Int32} {w : Int64} {g : Nat → Int64} (T : TY c n v f) {b : Nat} (h3 : v 3 = nI b) (hb : b ≤ n) : ∃ (v' : Nat → Int32) (w' : Int64), gsY_X11_token_1 NF v f w g = (v', f, w', g) ∧ TOK c n (tP c n b) v v' w' := by
  have hn := T.2.1
  unfold gsY_X11_token_1
  obtain ⟨v1, fu, a, e3, e⟩ := yBl (w := w) (g := g) (4294967296 + NF) b v T h3 hb (by omega)
  rw [e]
  have T1 : TY c n v1 f := T.of (a 4 (by decide)) rfl
  have hpn : tP c n b ≤ n := lx_cle lx_b c hb
  have hbl : ¬ (tP c n b < n ∧ lx_b (c (tP c n b)) = true) := lx_cout lx_b c n b
  have e3 : v1 3 = nI (tP c n b) := e3
  have key : ∃ (v' : Nat → Int32) (w' : Int64), gsY_X11_token_1_L1 NF (fu + 1) v1 f w g = (v', f, w', g) ∧ TOK c n (tP c n b) v1 v' w' := by
    generalize tP c n b = p at hpn hbl e3
    have T6 : TY c n (upd v1 6 (v1 3)) f := T1.upd (by decide)
    simp only [gsY_X11_token_1_L1, yHere0 T1 _ _ e3 (show p < 2 ^ 31 by omega), yHere0 T6 _ _ ((pk_un (show (3 : Nat) ≠ 6 by decide)).trans e3) (show p < 2 ^ 31 by omega), yLet T1, yDig T1]
    by_cases hp : p < n
    · have hcp := (T1.2.2 p hp).1
      obtain ⟨b1, b2, b3⟩ := yl_b (c p) hcp
      have bb := (cl_b (c p) hcp).2.2
      have hnp : ¬ n ≤ p := by omega
      rw [if_pos hp, if_neg (fun z => hbl ⟨hp, bb.mpr (Or.inl (b1.mp z))⟩), if_neg (fun z => hbl ⟨hp, bb.mpr (Or.inr (b2.mp z))⟩), if_pos b3]
      have V3 : ∀ x : Int32, upd (upd v1 6 (v1 3)) 7 x 3 = nI p := fun x => (pk_un (by decide)).trans ((pk_un (by decide)).trans e3)
      have V6 : ∀ x : Int32, upd (upd v1 6 (v1 3)) 7 x 6 = nI p := fun x => (pk_un (by decide)).trans (pk_us.trans e3)
      have fr : ∀ (x : Int32) k, k ≠ 3 → k ≠ 5 → k ≠ 6 → k ≠ 7 → upd (upd v1 6 (v1 3)) 7 x k = v1 k := fun x k _ _ k6 k7 => (pk_un k7).trans (pk_un k6)
      by_cases hl : lx_l (c p) = true
      · rw [if_pos (And.intro hp hl), ite11]
        have hE : tE c n p = lx_c lx_l c n p := by unfold tE; rw [if_neg hnp, if_pos hl]
        have hK : tK c n p = if 8 < lx_c lx_l c n p - p then 1 else lx_k c p (lx_c lx_l c n p - p) lx_W 101 := by unfold tK; rw [if_neg hnp, if_pos hl, hE]
        rw [show (0 : Int32) = nI 0 from rfl, yL20 (T6.upd (by decide)) e3 (V3 _) (4294967296 + NF) 0 0 hpn (by omega)]
        rw [show p + 0 = p from rfl]
        by_cases h8 : 8 < lx_c lx_l c n p - p
        · rw [if_neg (by omega)]
          rw [if_pos h8] at hK
          refine ⟨_, _, rfl, fun k k3 k5 k6 k7 => (pk_un k5).trans (fr _ k k3 k5 k6 k7), (pk_un (by decide)).trans (V6 _), ?_, fun z => absurd hK z, fun z => absurd (hK.symm.trans z) (by decide), fun z => absurd z (by rw [hK]; decide)⟩
          rw [pk_us, hK]; rfl
        · rw [if_pos (by omega)]
          rw [if_neg h8] at hK
          have hr := lx_k_W c p (lx_c lx_l c n p - p)
          rw [← hK] at hr
          have hS : tS (tK c n p) = 1 := by unfold tS; rw [if_neg (by omega), if_pos (by omega)]
          refine ⟨_, _, rfl, fun k k3 k5 k6 k7 => (pk_un k3).trans ((pk_un k5).trans (fr _ k k3 k5 k6 k7)), (pk_un (by decide)).trans ((pk_un (by decide)).trans (V6 _)), ?_, fun _ => pk_us.trans (by rw [hE]), fun z => by omega, fun _ => ?_⟩
          · rw [pk_un (by decide), pk_us, hS]; rfl
          · rw [show min (lx_c lx_l c n p - p) 8 - 0 = lx_c lx_l c n p - p by omega]; unfold tW; rw [hE]
      · rw [if_neg (show ¬ (p < n ∧ lx_l (c p) = true) from fun z => hl z.2), ite01]
        by_cases hd : lx_d (c p) = true
        · rw [if_pos (And.intro hp hd), ite11]
          have hE : tE c n p = lx_c lx_d c n p := by unfold tE; rw [if_neg hnp, if_neg hl, if_pos hd]
          have hK : tK c n p = if 4 < lx_c lx_d c n p - p ∨ (lx_c lx_d c n p < n ∧ lx_l (c (lx_c lx_d c n p)) = true) then 1 else 2 := by unfold tK; rw [if_neg hnp, if_neg hl, if_pos hd, hE]
          obtain ⟨v', a', b', e'⟩ := yL47 (g := g) e3 (4294967296 + NF) 0 (upd (upd v1 6 (v1 3)) 7 0) 0 (T6.upd (by decide)) (V3 _) hpn (by omega)
          rw [show p + 0 = p from rfl] at b' e'
          rw [show gsY_X11_token_1_L47 NF v1 (4294967296 + NF) 0 (upd (upd v1 6 (v1 3)) 7 0) f 0 g = _ from e']
          by_cases h4 : 4 < lx_c lx_d c n p - p ∨ (lx_c lx_d c n p < n ∧ lx_l (c (lx_c lx_d c n p)) = true)
          · rw [if_pos h4]
            rw [if_pos h4] at hK
            refine ⟨_, _, rfl, fun k k3 k5 k6 k7 => (pk_un k5).trans ((a' k k7).trans (fr _ k k3 k5 k6 k7)), (pk_un (by decide)).trans ((a' 6 (by decide)).trans (V6 _)), ?_, fun z => absurd hK z, fun z => absurd (hK.symm.trans z) (by decide), fun z => absurd z (by rw [hK]; decide)⟩
            rw [pk_us, hK]; rfl
          · rw [if_neg h4]
            rw [if_neg h4] at hK
            refine ⟨_, _, rfl, fun k k3 k5 k6 k7 => (pk_un k3).trans ((pk_un k5).trans ((a' k k7).trans (fr _ k k3 k5 k6 k7))), (pk_un (by decide)).trans ((pk_un (by decide)).trans ((a' 6 (by decide)).trans (V6 _))), ?_, fun _ => pk_us.trans (by rw [hE]), fun _ => ?_, fun z => absurd z (by rw [hK]; decide)⟩
            · rw [pk_un (by decide), pk_us, hK]; rfl
            · rw [pk_un (by decide), pk_un (by decide), b' (by omega), pk_us]; unfold tN; rw [hE]
        · rw [if_neg (show ¬ (p < n ∧ lx_d (c p) = true) from fun z => hd z.2), ite01, ySg hcp]
          have hE : tE c n p = p + 1 := by unfold tE; rw [if_neg hnp, if_neg hl, if_neg hd]
          have hK : tK c n p = if lx_s (c p) = true then c p else 1 := by unfold tK; rw [if_neg hnp, if_neg hl, if_neg hd]
          by_cases hs : lx_s (c p) = true
          · obtain ⟨s1, s2, s3, s4, s5⟩ := sgS (c p) hcp hs
            rw [if_pos hs] at hK
            rw [if_pos hs, ite11, if_neg s2, e3, nI_1]
            refine ⟨_, _, rfl, fun k k3 k5 k6 k7 => (pk_un k3).trans ((pk_un k5).trans ((pk_un k7).trans (pk_un k6))), (pk_un (by decide)).trans ((pk_un (by decide)).trans ((pk_un (by decide)).trans pk_us)), ?_, fun _ => pk_us.trans (by rw [hE]), fun z => absurd (hK.symm.trans z) s4, fun z => ?_⟩
            · rw [pk_un (by decide), pk_us, hK, s1]
            · rw [hK, s1] at z; exact absurd z s3
          · rw [if_neg hs] at hK
            rw [if_neg hs, ite01]
            refine ⟨_, _, rfl, fun k k3 k5 k6 k7 => (pk_un k5).trans (fr _ k k3 k5 k6 k7), (pk_un (by decide)).trans (V6 _), ?_, fun z => absurd hK z, fun z => absurd (hK.symm.trans z) (by decide), fun z => absurd z (by rw [hK]; decide)⟩
            rw [pk_us, hK]; rfl
    · have e1 : n ≤ p := by omega
      have hE : tE c n p = p := by unfold tE; rw [if_pos e1]
      have hK : tK c n p = 0 := by unfold tK; rw [if_pos e1]
      rw [if_neg hp, if_neg (show ¬ (-1 : Int32) = 32 by decide), if_neg (show ¬ (-1 : Int32) = 10 by decide), if_neg (show ¬ (0 : Int32) ≤ -1 by decide)]
      refine ⟨_, _, rfl, fun k k3 k5 k6 k7 => (pk_un k3).trans ((pk_un k5).trans ((pk_un k7).trans (pk_un k6))), (pk_un (by decide)).trans ((pk_un (by decide)).trans ((pk_un (by decide)).trans (pk_us.trans e3))), ?_, fun _ => pk_us.trans ?_, fun z => absurd (hK.symm.trans z) (by decide), fun z => absurd z (by rw [hK]; decide)⟩
      · rw [pk_un (by decide), pk_us, hK]; rfl
      · rw [e3, hE]; show nI p + nI 0 = nI p; rw [nI_add, Nat.add_zero]
  obtain ⟨v', w', k1, k2, k3⟩ := key
  exact ⟨v', w', k1, fun k q3 q5 q6 q7 => (k2 k q3 q5 q6 q7).trans (a k q3), k3⟩
end
