section
variable {NF : Nat}
section
variable {K : Nat → Nat} {N : Nat → Int32} {m i own : Nat} {out : List (Nat × Int32)} {st : List Nat}
theorem sy_not (h : K i = 115) (hm : fMay st = true) (hd : fDp st ≤ 6) : sy K N (m + 1) true i out st own = sy K N m true (i + 1) out (115 :: st) own := by
  rw [sy, if_pos ⟨h, hm⟩, if_neg (by omega)]
theorem sy_notF (h : K i = 115) (hm : fMay st = true) (hd : 6 < fDp st) : sy K N (m + 1) true i out st own = some (fFl (K i), i, [], 0) := by
  rw [sy, if_pos ⟨h, hm⟩, if_pos hd]
theorem sy_br (h : K i = 40) (ho : own ≠ 30) (hd : fDp st ≤ 6) : sy K N (m + 1) true i out st own = sy K N m true (i + 1) out (40 :: st) (own + 1) := by
  rw [sy, if_neg (fun z => by omega), if_pos h, if_neg (fun z => z.elim ho (fun q => by omega))]
theorem sy_brF (h : K i = 40) (hd : own = 30 ∨ 6 < fDp st) : sy K N (m + 1) true i out st own = some (fFl (K i), i, [], 0) := by
  rw [sy, if_neg (fun z => by omega), if_pos h, if_pos hd]
theorem sy_op (h : fOp (K i) = true) (ho : own ≠ 30) : sy K N (m + 1) true i out st own = sy K N m false (i + 1) (out ++ [(K i, if K i = 2 then N i else 0)]) st (own + 1) := by
  have h1 : K i ≠ 115 ∧ K i ≠ 40 := by
    simp only [fOp, Bool.or_eq_true, Bool.and_eq_true, beq_iff_eq, decide_eq_true_eq] at h
    omega
  rw [sy, if_neg (fun z => h1.1 z.1), if_neg h1.2, if_pos ⟨h, ho⟩]
theorem sy_opF (h1 : K i = 115 → fMay st = false) (h2 : K i ≠ 40) (h : ¬ (fOp (K i) = true ∧ own ≠ 30)) : sy K N (m + 1) true i out st own = some (fFl (K i), i, [], 0) := by
  rw [sy, if_neg (fun z => by rw [h1 z.1] at z; exact absurd z.2 (by decide)), if_neg h2, if_neg h]
theorem sy_cl (h : K i = 41) (hb : fHasB st = true) : sy K N (m + 1) false i out st own = sy K N m false (i + 1) (fCls 0 out st).1 (fCls 0 out st).2.tail own := by
  rw [sy, if_pos ⟨h, hb⟩]
theorem sy_sg (h41 : K i ≠ 41) (hs : fSg (K i) = true) (h4 : ¬ (fTg (K i) = 4 ∧ fHasR st = true)) : sy K N (m + 1) false i out st own = sy K N m true (i + 1) (fCls (fTg (K i)) out st).1 (K i :: (fCls (fTg (K i)) out st).2) own := by
  rw [sy, if_neg (fun z => h41 z.1), if_pos ⟨hs, h4⟩]
theorem sy_stB (h41 : K i ≠ 41) (hs : ¬ (fSg (K i) = true ∧ ¬ (fTg (K i) = 4 ∧ fHasR st = true))) (hb : fHasB st = true) : sy K N (m + 1) false i out st own = some (fFl (K i), i, [], 0) := by
  rw [sy, if_neg (fun z => h41 z.1), if_neg hs, if_pos hb]
theorem sy_stN (hs : ¬ (fSg (K i) = true ∧ ¬ (fTg (K i) = 4 ∧ fHasR st = true))) (hb : fHasB st = false) : sy K N (m + 1) false i out st own = some (0, i, (fCls 0 out st).1, own) := by
  rw [sy, if_neg (fun z => by rw [hb] at z; exact absurd z.2 (by decide)), if_neg hs, if_neg (by rw [hb]; decide)]
end
def cT (L : Nat) : Nat := if L = 0 then 1 else if L = 1 then 2 else if L = 2 then 4 else if L = 3 then 5 else if L = 4 then 6 else 7
def tT (L : Nat) : Nat := if L = 0 then 1 else if L = 1 then 2 else if L = 2 then 3 else if L = 3 then 5 else if L = 4 then 6 else 7
def jB (L k : Nat) : Bool := if L = 0 then k == 113 else if L = 1 then k == 114 else if L = 2 then (k == 60 || k == 62 || k == 61) else if L = 3 then (k == 43 || k == 45) else (k == 42 || k == 47 || k == 37)
def nJ (L k : Nat) : Bool := !((decide (L ≤ 4) && jB 4 k) || (decide (L ≤ 3) && jB 3 k) || (decide (L ≤ 1) && jB 1 k) || (decide (L ≤ 0) && jB 0 k))
theorem jB_b : ∀ L, L < 5 → ∀ k, k < 256 → jB L k = true → (fSg k && k != 41 && k != 40 && k != 115 && k != 2 && fTg k == cT L && decide (tT L ≤ fTg k) && decide (fTg k < cT (L + 1)) && (L == 2 || fTg k != 4) && (decide (L < 2) || decide (4 ≤ fTg k))) = true := by decide +kernel
theorem jB_f (L : Nat) (hL : L < 5) (k : Nat) (hk : k < 256) (h : jB L k = true) : fSg k = true ∧ k ≠ 41 ∧ k ≠ 40 ∧ k ≠ 115 ∧ k ≠ 2 ∧ fTg k = cT L ∧ tT L ≤ fTg k ∧ fTg k < cT (L + 1) ∧ (L ≠ 2 → fTg k ≠ 4) ∧ (2 ≤ L → 4 ≤ fTg k) := by
  have q := jB_b L hL k hk h
  simp only [Bool.and_eq_true, Bool.or_eq_true, bne_iff_ne, beq_iff_eq, decide_eq_true_eq] at q
  obtain ⟨⟨⟨⟨⟨⟨⟨⟨⟨q1, q2⟩, q3⟩, q4⟩, q5⟩, q6⟩, q7⟩, q8⟩, q9⟩, q10⟩ := q
  exact ⟨q1, q2, q3, q4, q5, q6, q7, q8, fun z => q9.resolve_left z, fun z => q10.resolve_left (by omega)⟩
theorem nJ_s : ∀ L, L < 5 → ∀ k, k < 256 → jB L k = false → nJ (L + 1) k = true → nJ L k = true := by decide +kernel
theorem nJ_0 : ∀ k, k < 256 → nJ 0 k = true → fSg k = true → jB 2 k = true ∧ fTg k = 4 := by decide +kernel
theorem nJ_5 : ∀ k, k < 256 → nJ 5 k = true := by decide +kernel
theorem nJ_2 : ∀ L, L < 5 → ∀ k, k < 256 → nJ L k = true → nJ (L + 1) k = true := by decide +kernel
theorem nJ_23 {k : Nat} (h : nJ 3 k = true) : nJ 2 k = true := h
theorem tT_s : ∀ L, L < 5 → tT L ≤ tT (L + 1) ∧ cT L ≤ cT (L + 1) := by decide
theorem tg115 : fTg 115 = 3 := rfl
theorem jn0 : ∀ L, L < 5 → ∀ k, k < 256 → gsX_X6_joins_1 0 (nI L) (nI k) zV zVV = if jB L k = true then 1 else 0 := by decide +kernel
theorem jn {L k : Nat} {v : Nat → Int32} {f : Nat → Nat → Int32} (hL : L < 5) (hk : k < 256) : gsX_X6_joins_1 NF (nI L) (nI k) v f = if jB L k = true then 1 else 0 := (show gsX_X6_joins_1 NF (nI L) (nI k) v f = gsX_X6_joins_1 0 (nI L) (nI k) zV zVV from rfl).trans (jn0 L hL k hk)
abbrev XG : Type := (Nat → Int32) → (Nat → Nat → Int32) → Int32 × (Nat → Int32) × (Nat → Nat → Int32)
def YES (c : Nat → Nat) (n : Nat) (v0 : Nat → Int32) (f0 : Nat → Nat → Int32) (L : Nat) (r : Int32 × (Nat → Int32) × (Nat → Nat → Int32)) (i : Nat) (out : List (Nat × Int32)) (st : List Nat) (own : Nat) : Prop :=
  ∃ (v' : Nat → Int32) (f' : Nat → Nat → Int32) (i' : Nat) (out1 : List (Nat × Int32)) (P : List Nat) (own' : Nat), r = (1, v', f') ∧ XS c n v0 f0 v' f' i' (out1 ++ fMp P) own' ∧ (∃ k, ∀ m, sy (tk_k c n) (tk_n c n) (m + k) true i out st own = sy (tk_k c n) (tk_n c n) m false i' out1 (P ++ st) own') ∧ (∀ a ∈ P, a ≠ 40 ∧ tT L ≤ fTg a) ∧ nJ L (tk_k c n i') = true ∧ (L ≤ 2 → jB 2 (tk_k c n i') = true → fHasR (P ++ st) = true) ∧ own < own' ∧ own' ≤ 30 ∧ out1.length + fNb (P ++ st) + 1 ≤ 9 * own'
def NOPE (c : Nat → Nat) (n : Nat) (v0 : Nat → Int32) (f0 : Nat → Nat → Int32) (r : Int32 × (Nat → Int32) × (Nat → Nat → Int32)) (i : Nat) (out : List (Nat × Int32)) (st : List Nat) (own : Nat) : Prop :=
  ∃ (v' : Nat → Int32) (f' : Nat → Nat → Int32) (s j : Nat), r = (0, v', f') ∧ XF c n v0 f0 v' f' s j ∧ 0 < s ∧ s ≤ 2 ∧ ∃ k, ∀ m, sy (tk_k c n) (tk_n c n) (m + k) true i out st own = some (s, j, [], 0)
def SIM (c : Nat → Nat) (n : Nat) (v0 : Nat → Int32) (f0 : Nat → Nat → Int32) (w L : Nat) (g : XG) : Prop :=
  ∀ (v : Nat → Int32) (f : Nat → Nat → Int32) (i : Nat) (out : List (Nat × Int32)) (st : List Nat) (own : Nat), XS c n v0 f0 v f i out own → fDp st = w → fLow (cT L) st → (3 ≤ L → tk_k c n i = 115 → fMay st = false) → own ≤ 30 → out.length + fNb st ≤ 9 * own + fDp st → YES c n v0 f0 L (g v f) i out st own ∨ NOPE c n v0 f0 (g v f) i out st own
theorem fFl_r (k : Nat) : 0 < fFl k ∧ fFl k ≤ 2 := by
  unfold fFl
  by_cases h : k = 1
  · rw [if_pos h]; decide
  · rw [if_neg h]; decide
def xmB (q : Int32 × (Nat → Int32) × (Nat → Nat → Int32)) : Int32 × (Nat → Int32) × (Nat → Nat → Int32) :=
  match q with
  | (r, v, f) => if r = 1 then (1, v, f) else (0, v, f)
def xmCh (NF : Nat) (gs : XG) (L most : Int32) : Nat → Int32 → (Nat → Int32) → (Nat → Nat → Int32) → Int32 × (Nat → Int32) × (Nat → Nat → Int32)
  | 0, _, _, _ => (0, (fun _ => 0), (fun _ _ => 0))
  | m + 1, l, v, f =>
    if most ≤ l then (1, v, f)
    else if gsX_X6_joins_1 NF L (v 2) v f = 1 then
      match gsX_X9_advance_1 NF v f with
      | (v1, f1) =>
        match gs v1 f1 with
        | (r, v2, f2) =>
          if r = 1 then
            match gsX_X4_add_1 NF (v 2) 0 v2 f2 with
            | (v3, f3) => xmCh NF gs L most m (l + 1) v3 f3
          else (0, v2, f2)
    else (1, v, f)
def xmLv (NF : Nat) (gs : XG) (L most : Int32) : XG := fun v f =>
  match gs v f with
  | (r, v1, f1) => if r = 1 then xmCh NF gs L most (4294967296 + NF) 0 v1 f1 else (0, v1, f1)
def xmNeg (NF : Nat) (gs : XG) : XG := fun v f =>
  match gsX_X9_advance_1 NF v f with
  | (v2, f3) =>
    match gs v2 f3 with
    | (r4, v6, f7) =>
      if r4 = 1 then
        match gsX_X4_add_1 NF 115 0 v6 f7 with
        | (v10, f11) => (1, v10, f11)
      else (0, v6, f7)
def xmOne (NF : Nat) (gn gs : XG) : XG := fun v f => if v 2 = 115 then xmB (gn v f) else xmLv NF gs 2 1 v f
def xmOper (NF : Nat) : XG := fun v f =>
  if (v 17) < 30 then
    match gsX_X4_add_1 NF (v 2) (v 5) v f with
    | (v4, f5) =>
      match gsX_X9_advance_1 NF (upd v4 17 (v4 17 + 1)) f5 with
      | (v8, f9) => (1, v8, f9)
  else xmB (gsX_X6_refuse_1 NF v f)
def xmBra (NF : Nat) (gs : XG) : XG := fun v f =>
  if (v 2) = 40 then
    if (v 17) < 30 then
      match gsX_X9_advance_1 NF (upd v 17 (v 17 + 1)) f with
      | (v26, f27) =>
        match gs v26 f27 with
        | (r28, v30, f31) => if r28 = 1 then xmB (gsX_X6_taken_1 NF 41 v30 f31) else (0, v30, f31)
    else xmB (gsX_X6_refuse_1 NF v f)
  else xmB (gsX_X6_refuse_1 NF v f)
def xmUn (NF : Nat) (gb : XG) : XG := fun v f => if (v 2) = 2 then xmOper NF v f else if (v 2) < 116 then gb v f else if 121 < (v 2) then gb v f else xmOper NF v f
def xmBr7 (NF : Nat) : XG := fun v f => if (v 2) = 40 then (if (v 17) < 30 then xmB (gsX_X6_refuse_1 NF v f) else xmB (gsX_X6_refuse_1 NF v f)) else xmB (gsX_X6_refuse_1 NF v f)
theorem xmB1 (v : Nat → Int32) (f : Nat → Nat → Int32) : xmB (1, v, f) = (1, v, f) := by
  show (if (1 : Int32) = 1 then ((1 : Int32), v, f) else ((0 : Int32), v, f)) = (1, v, f)
  exact if_pos rfl
theorem xmB0 (v : Nat → Int32) (f : Nat → Nat → Int32) : xmB (0, v, f) = (0, v, f) := by
  show (if (0 : Int32) = 1 then ((1 : Int32), v, f) else ((0 : Int32), v, f)) = (0, v, f)
  exact if_neg (by decide)
section
variable {c : Nat → Nat} {n : Nat} {v0 : Nat → Int32} {f0 : Nat → Nat → Int32}
theorem xmB_yes {L : Nat} {r : Int32 × (Nat → Int32) × (Nat → Nat → Int32)} {i own : Nat} {out : List (Nat × Int32)} {st : List Nat} (h : YES c n v0 f0 L r i out st own) : xmB r = r := by
  obtain ⟨v', f', _, _, _, _, e, _⟩ := h
  rw [e]; exact xmB1 _ _
theorem xmB_nope {r : Int32 × (Nat → Int32) × (Nat → Nat → Int32)} {i own : Nat} {out : List (Nat × Int32)} {st : List Nat} (h : NOPE c n v0 f0 r i out st own) : xmB r = r := by
  obtain ⟨v', f', _, _, e, _⟩ := h
  rw [e]; exact xmB0 _ _
theorem xmB_or {L : Nat} {r : Int32 × (Nat → Int32) × (Nat → Nat → Int32)} {i own : Nat} {out : List (Nat × Int32)} {st : List Nat} (h : YES c n v0 f0 L r i out st own ∨ NOPE c n v0 f0 r i out st own) : YES c n v0 f0 L (xmB r) i out st own ∨ NOPE c n v0 f0 (xmB r) i out st own := by
  rcases h with h | h
  · rw [xmB_yes h]; exact Or.inl h
  · rw [xmB_nope h]; exact Or.inr h
theorem SIMb {w L : Nat} {g : XG} (h : SIM c n v0 f0 w L g) : SIM c n v0 f0 w L (fun v f => xmB (g v f)) := fun v f i out st own h1 h2 h3 h4 h5 h6 => xmB_or (h v f i out st own h1 h2 h3 h4 h5 h6)
theorem nopeR (hc : ∀ k, k < n → c k < 256) {v : Nat → Int32} {f : Nat → Nat → Int32} {i own : Nat} {out : List (Nat × Int32)} {st : List Nat} (h : XS c n v0 f0 v f i out own) (hs : ∀ m, sy (tk_k c n) (tk_n c n) (m + 1) true i out st own = some (fFl (tk_k c n i), i, [], 0)) : NOPE c n v0 f0 (xmB (gsX_X6_refuse_1 NF v f)) i out st own := by
  obtain ⟨v', e, x⟩ := XS.ref (NF := NF) hc h
  have hr := fFl_r (tk_k c n i)
  exact ⟨v', f, _, i, by rw [e]; exact xmB0 _ _, x, hr.1, hr.2, 1, hs⟩
theorem simOper (T : TX c n v0 f0) (hc : ∀ k, k < n → c k < 256) {w : Nat} (hw : w ≤ 7) {v : Nat → Int32} {f : Nat → Nat → Int32} {i own : Nat} {out : List (Nat × Int32)} {st : List Nat} (h : XS c n v0 f0 v f i out own) (hd : fDp st = w) (hop : fOp (tk_k c n i) = true) (ho : own ≤ 30) (hb : out.length + fNb st ≤ 9 * own + fDp st) : YES c n v0 f0 5 (xmOper NF v f) i out st own ∨ NOPE c n v0 f0 (xmOper NF v f) i out st own := by
  have hk := tk_lt hc i
  have h17 : v 17 = nI own := h.2.2.2.2.1
  have hop' := hop
  simp only [fOp, Bool.or_eq_true, Bool.and_eq_true, beq_iff_eq, decide_eq_true_eq] at hop'
  unfold xmOper
  rw [h17]
  by_cases hlt : own < 30
  · rw [if_pos (show nI own < (30 : Int32) from nI_lt (b := 30) hlt (by omega)), h.1.1]
    obtain ⟨v4, f5, e4, x4, e17⟩ := XS.add (NF := NF) (k := tk_k c n i) (x := v 5) (y := if tk_k c n i = 2 then tk_n c n i else 0) h (by omega) (fun z => by rw [if_pos z]; exact h.1.2.2.2 z)
    have x5 : XS c n v0 f0 (upd v4 17 (nI (own + 1))) f5 i (out ++ [(tk_k c n i, if tk_k c n i = 2 then tk_n c n i else 0)]) (own + 1) := by
      obtain ⟨⟨c1, c2, c3, c4⟩, h2, h3, h4, h5, h6⟩ := x4
      exact ⟨⟨(pk_un (by decide)).trans c1, (pk_un (by decide)).trans c2, (pk_un (by decide)).trans c3, fun z => (pk_un (by decide)).trans (c4 z)⟩, fun k k2 k3 k4 k5 k16 k17 => (pk_un k17).trans (h2 k k2 k3 k4 k5 k16 k17), h3, (pk_un (by decide)).trans h4, pk_us, h6⟩
    obtain ⟨v8, e8, x8⟩ := XS.adv (NF := NF) T x5
    refine Or.inl ⟨v8, f5, i + 1, _, [], own + 1, ?_, by simpa [fMp] using x8, ⟨1, fun m => ?_⟩, fun a ha => absurd ha (by simp), nJ_5 _ (tk_lt hc _), fun z => by omega, by omega, by omega, ?_⟩
    · simp only [e4, e17, h17, nI_1, e8]
    · rw [sy_op hop (by omega)]; rfl
    · rw [List.nil_append, List.length_append, List.length_singleton]; omega
  · rw [if_neg (show ¬ nI own < (30 : Int32) from nI_nlt (b := 30) (by omega) (by omega))]
    exact Or.inr (nopeR hc h (fun m => sy_opF (fun z => by omega) (by omega) (fun z => z.2 (by omega))))
theorem simUn (T : TX c n v0 f0) (hc : ∀ k, k < n → c k < 256) {w : Nat} (hw : w ≤ 7) {gb : XG} (hg : ∀ v f i out st own, XS c n v0 f0 v f i out own → fDp st = w → (tk_k c n i = 115 → fMay st = false) → own ≤ 30 → out.length + fNb st ≤ 9 * own + fDp st → fOp (tk_k c n i) = false → YES c n v0 f0 5 (gb v f) i out st own ∨ NOPE c n v0 f0 (gb v f) i out st own) : SIM c n v0 f0 w 5 (xmUn NF gb) := by
  intro v f i out st own h hd _ hN ho hb
  have hk := tk_lt hc i
  unfold xmUn
  rw [h.1.1]
  by_cases e2 : tk_k c n i = 2
  · rw [if_pos (by rw [e2]; rfl)]
    exact simOper T hc hw h hd (by rw [e2]; decide) ho hb
  · rw [if_neg (nlit 2 2 rfl (by omega) (by decide) e2)]
    by_cases e3 : tk_k c n i < 116
    · rw [if_pos (show nI (tk_k c n i) < (116 : Int32) from nI_lt (b := 116) e3 (by omega))]
      exact hg v f i out st own h hd (hN (by decide)) ho hb (by simp [fOp]; omega)
    · rw [if_neg (show ¬ nI (tk_k c n i) < (116 : Int32) from nI_nlt (b := 116) (by omega) (by omega))]
      by_cases e4 : 121 < tk_k c n i
      · rw [if_pos (show (121 : Int32) < nI (tk_k c n i) from nI_lt (a := 121) e4 (by omega))]
        exact hg v f i out st own h hd (hN (by decide)) ho hb (by simp [fOp]; omega)
      · rw [if_neg (show ¬ (121 : Int32) < nI (tk_k c n i) from nI_nlt (a := 121) (by omega) (by omega))]
        exact simOper T hc hw h hd (by simp [fOp]; omega) ho hb
theorem simBr7 (hc : ∀ k, k < n → c k < 256) : ∀ v f i out st own, XS c n v0 f0 v f i out own → fDp st = 7 → (tk_k c n i = 115 → fMay st = false) → own ≤ 30 → out.length + fNb st ≤ 9 * own + fDp st → fOp (tk_k c n i) = false → YES c n v0 f0 5 (xmBr7 NF v f) i out st own ∨ NOPE c n v0 f0 (xmBr7 NF v f) i out st own := by
  intro v f i out st own h hd hN ho hb hop
  have e : xmBr7 NF v f = xmB (gsX_X6_refuse_1 NF v f) := by unfold xmBr7; split <;> (try split) <;> rfl
  rw [e]
  by_cases h40 : tk_k c n i = 40
  · exact Or.inr (nopeR hc h (fun m => sy_brF h40 (Or.inr (by omega))))
  · exact Or.inr (nopeR hc h (fun m => sy_opF hN h40 (fun z => by rw [hop] at z; exact absurd z.1 (by decide))))
theorem simBra (T : TX c n v0 f0) (hc : ∀ k, k < n → c k < 256) {w : Nat} (hw : w ≤ 6) {gs : XG} (hs : SIM c n v0 f0 (w + 1) 0 gs) : ∀ v f i out st own, XS c n v0 f0 v f i out own → fDp st = w → (tk_k c n i = 115 → fMay st = false) → own ≤ 30 → out.length + fNb st ≤ 9 * own + fDp st → fOp (tk_k c n i) = false → YES c n v0 f0 5 (xmBra NF gs v f) i out st own ∨ NOPE c n v0 f0 (xmBra NF gs v f) i out st own := by
  intro v f i out st own h hd hN ho hb hop
  have hk := tk_lt hc i
  have h17 : v 17 = nI own := h.2.2.2.2.1
  unfold xmBra
  rw [h.1.1, h17]
  by_cases h40 : tk_k c n i = 40
  · rw [if_pos (by rw [h40]; rfl)]
    by_cases hlt : own < 30
    · rw [if_pos (show nI own < (30 : Int32) from nI_lt (b := 30) hlt (by omega)), nI_1]
      have x1 : XS c n v0 f0 (upd v 17 (nI (own + 1))) f i out (own + 1) := by
        obtain ⟨⟨c1, c2, c3, c4⟩, h2, h3, h4, h5, h6⟩ := h
        exact ⟨⟨(pk_un (by decide)).trans c1, (pk_un (by decide)).trans c2, (pk_un (by decide)).trans c3, fun z => (pk_un (by decide)).trans (c4 z)⟩, fun k k2 k3 k4 k5 k16 k17 => (pk_un k17).trans (h2 k k2 k3 k4 k5 k16 k17), h3, (pk_un (by decide)).trans h4, pk_us, h6⟩
      obtain ⟨v2, e2, x2⟩ := XS.adv (NF := NF) T x1
      simp only [e2]
      have d1 : fDp (40 :: st) = w + 1 := by show (if (40 : Nat) = 115 ∨ (40 : Nat) = 40 then 1 else 0) + fDp st = _; rw [if_pos (Or.inr rfl)]; omega
      have n1 : fNb (40 :: st) = fNb st := by show (if (40 : Nat) = 40 then 0 else 1) + fNb st = _; rw [if_pos rfl]; omega
      rcases hs v2 f (i + 1) out (40 :: st) (own + 1) x2 d1 (Or.inr ⟨40, st, rfl, Or.inl rfl⟩) (fun z => by omega) (by omega) (by omega) with ⟨v3, f3, i3, o3, P, w3, e3, x3, ⟨k3, s3⟩, p3, j3, r3, a3, b3, q3⟩ | ⟨v3, f3, s, j, e3, x3, s0, s2, k3, s3⟩
      · simp only [e3, ite11]
        have hk3 := tk_lt hc i3
        have pP : ∀ a ∈ P, a ≠ 40 := fun a ha => (p3 a ha).1
        have q3' := q3
        rw [fNb_app P (40 :: st) pP, n1] at q3'
        have link : ∀ m, sy (tk_k c n) (tk_n c n) (m + (k3 + 1)) true i out st own = sy (tk_k c n) (tk_n c n) m false i3 o3 (P ++ 40 :: st) w3 := fun m => by
          rw [show m + (k3 + 1) = (m + k3) + 1 by omega, sy_br h40 (by omega) (by omega), s3 m]
        by_cases h41 : tk_k c n i3 = 41
        · obtain ⟨v4, e4, x4⟩ := XS.adv (NF := NF) T x3
          refine Or.inl ⟨v4, f3, i3 + 1, o3 ++ fMp P, [], w3, ?_, by simpa [fMp] using x4, ⟨1 + (k3 + 1), fun m => ?_⟩, fun a ha => absurd ha (by simp), nJ_5 _ (tk_lt hc _), fun z => by omega, by omega, by omega, ?_⟩
          · simp only [gsX_X6_taken_1, x3.1.1, h41]
            rw [if_pos (show nI 41 = (41 : Int32) from rfl)]
            simp only [e4]
            exact xmB1 _ _
          · rw [show m + (1 + (k3 + 1)) = (m + 1) + (k3 + 1) by omega, link (m + 1), sy_cl h41 (fHasB_app P st), fCls_app (t := 0) (st := 40 :: st) (Or.inr ⟨40, st, rfl, Or.inl rfl⟩) P o3 (fun a ha => ⟨pP a ha, Nat.zero_le _⟩)]
            rfl
          · rw [List.nil_append, List.length_append, fMp_len]; omega
        · obtain ⟨v4, e4, x4⟩ := XS.ref (NF := NF) hc x3
          have hr := fFl_r (tk_k c n i3)
          refine Or.inr ⟨v4, f3, _, i3, ?_, x4, hr.1, hr.2, 1 + (k3 + 1), fun m => ?_⟩
          · simp only [gsX_X6_taken_1, x3.1.1]
            rw [if_neg (nlit 41 41 rfl (by omega) (by decide) h41)]
            simp only [e4, ite01]
            exact xmB0 _ _
          · rw [show m + (1 + (k3 + 1)) = (m + 1) + (k3 + 1) by omega, link (m + 1), sy_stB h41 (fun z => z.2 ⟨(nJ_0 _ hk3 j3 z.1).2, r3 (by omega) (nJ_0 _ hk3 j3 z.1).1⟩) (fHasB_app P st)]
      · simp only [e3, ite01]
        refine Or.inr ⟨v3, f3, s, j, rfl, x3, s0, s2, k3 + 1, fun m => ?_⟩
        rw [show m + (k3 + 1) = (m + k3) + 1 by omega, sy_br h40 (by omega) (by omega), s3 m]
    · rw [if_neg (show ¬ nI own < (30 : Int32) from nI_nlt (b := 30) (by omega) (by omega))]
      exact Or.inr (nopeR hc h (fun m => sy_brF h40 (Or.inl (by omega))))
  · rw [if_neg (nlit 40 40 rfl (by omega) (by decide) h40)]
    exact Or.inr (nopeR hc h (fun m => sy_opF hN h40 (fun z => by rw [hop] at z; exact absurd z.1 (by decide))))
theorem simCh (T : TX c n v0 f0) (hc : ∀ k, k < n → c k < 256) {w L : Nat} (hw : w ≤ 7) (hL : L < 5) (hL2 : L ≠ 2) {gs : XG} (hs : SIM c n v0 f0 w (L + 1) gs) {i0 own0 : Nat} {out0 : List (Nat × Int32)} {st : List Nat} (hd : fDp st = w) (hlow : fLow (cT L) st) :
    ∀ (fu l : Nat) (v : Nat → Int32) (f : Nat → Nat → Int32) (i : Nat) (o1 : List (Nat × Int32)) (P : List Nat) (own : Nat), XS c n v0 f0 v f i (o1 ++ fMp P) own → (∃ k, ∀ m, sy (tk_k c n) (tk_n c n) (m + k) true i0 out0 st own0 = sy (tk_k c n) (tk_n c n) m false i o1 (P ++ st) own) → (∀ a ∈ P, a ≠ 40 ∧ tT L ≤ fTg a) → nJ (L + 1) (tk_k c n i) = true → (L ≤ 2 → jB 2 (tk_k c n i) = true → fHasR (P ++ st) = true) → own0 < own → own ≤ 30 → o1.length + fNb (P ++ st) + 1 ≤ 9 * own → l ≤ own → 31 - own < fu →
      YES c n v0 f0 L (xmCh NF gs (nI L) 1600 fu (nI l) v f) i0 out0 st own0 ∨ NOPE c n v0 f0 (xmCh NF gs (nI L) 1600 fu (nI l) v f) i0 out0 st own0 := by
  intro fu
  induction fu with
  | zero => intro l v f i o1 P own _ _ _ _ _ _ _ _ _ h; exact absurd h (Nat.not_lt_zero _)
  | succ fu ih =>
    intro l v f i o1 P own hx hlink hP hj hr hlt ho hb hl hf
    have hk := tk_lt hc i
    have pP : ∀ a ∈ P, a ≠ 40 := fun a ha => (hP a ha).1
    have hb' := hb
    rw [fNb_app P st pP] at hb'
    rw [xmCh, if_neg (show ¬ (1600 : Int32) ≤ nI l from nI_ge (b := 1600) (by omega) (by omega)), hx.1.1, jn hL hk]
    by_cases hjb : jB L (tk_k c n i) = true
    · rw [if_pos hjb, ite11]
      obtain ⟨j1, j2, j3, j4, j5, j6, j7, j8, j9, j10⟩ := jB_f L hL _ hk hjb
      obtain ⟨v1, e1, x1⟩ := XS.adv (NF := NF) T hx
      obtain ⟨k0, link⟩ := hlink
      have d1 : fDp (tk_k c n i :: st) = w := by show (if tk_k c n i = 115 ∨ tk_k c n i = 40 then 1 else 0) + fDp st = _; rw [if_neg (fun z => z.elim j4 j3)]; omega
      have n1 : fNb (tk_k c n i :: st) = 1 + fNb st := by show (if tk_k c n i = 40 then 0 else 1) + fNb st = _; rw [if_neg j3]
      have hTc : tT L = cT L := by
        rcases (show L = 0 ∨ L = 1 ∨ L = 3 ∨ L = 4 by omega) with e | e | e | e
        · rw [e]; rfl
        · rw [e]; rfl
        · rw [e]; rfl
        · rw [e]; rfl
      have go : ∀ m, sy (tk_k c n) (tk_n c n) (m + (1 + k0)) true i0 out0 st own0 = sy (tk_k c n) (tk_n c n) m true (i + 1) (o1 ++ fMp P) (tk_k c n i :: st) own := fun m => by
        rw [show m + (1 + k0) = (m + 1) + k0 by omega, link (m + 1), sy_sg j2 j1 (fun z => j9 hL2 z.1), fCls_app (t := fTg (tk_k c n i)) (by rw [j6]; exact hlow) P o1 (fun a ha => ⟨pP a ha, by have := (hP a ha).2; omega⟩)]
      have may : 3 ≤ L + 1 → tk_k c n (i + 1) = 115 → fMay (tk_k c n i :: st) = false := fun z _ => by
        have := j10 (by omega)
        show (tk_k c n i == 40 || decide (fTg (tk_k c n i) < 4)) = false
        rw [beq_false_of_ne j3, decide_eq_false (by omega)]
        rfl
      simp only [e1]
      rcases hs v1 f (i + 1) (o1 ++ fMp P) (tk_k c n i :: st) own x1 d1 (Or.inr ⟨_, _, rfl, Or.inr j8⟩) may ho (by rw [List.length_append, fMp_len, n1]; omega) with ⟨v2, f2, i2, o2, P2, w2, e2, x2, ⟨k2, s2⟩, p2, q2, r2, a2, b2, t2⟩ | ⟨v2, f2, s, j, e2, x2, s0, s1, k2, s2⟩
      · simp only [e2, ite11]
        have pP2 : ∀ a ∈ P2, a ≠ 40 := fun a ha => (p2 a ha).1
        have t2' := t2
        rw [fNb_app P2 _ pP2, n1] at t2'
        obtain ⟨v3, f3, e3, x3, _⟩ := XS.add (NF := NF) (k := tk_k c n i) (x := 0) (y := 0) x2 (by rw [List.length_append, fMp_len]; omega) (fun _ => rfl)
        simp only [e3]
        rw [nI_1]
        have hPP : (P2 ++ [tk_k c n i]) ++ st = P2 ++ tk_k c n i :: st := by simp
        have hk2 := tk_lt hc i2
        refine ih (l + 1) v3 f3 i2 o2 (P2 ++ [tk_k c n i]) w2 ?_ ⟨k2 + (1 + k0), fun m => ?_⟩ ?_ q2 ?_ (by omega) b2 (by rw [hPP]; exact t2) (by omega) (by omega)
        · rw [fMp_app, ← List.append_assoc]; exact x3
        · rw [show m + (k2 + (1 + k0)) = (m + k2) + (1 + k0) by omega, go (m + k2), s2 m, hPP]
        · intro a ha
          rcases List.mem_append.mp ha with h | h
          · have := p2 a h
            have := (tT_s L hL).1
            exact ⟨(p2 a h).1, by omega⟩
          · rw [List.mem_singleton.mp h]; exact ⟨j3, j7⟩
        · intro z1 z2
          rw [hPP]
          exact r2 (by omega) z2
      · simp only [e2, ite01]
        refine Or.inr ⟨v2, f2, s, j, rfl, x2, s0, s1, k2 + (1 + k0), fun m => ?_⟩
        rw [show m + (k2 + (1 + k0)) = (m + k2) + (1 + k0) by omega, go (m + k2), s2 m]
    · rw [if_neg hjb, ite01]
      exact Or.inl ⟨v, f, i, o1, P, own, rfl, hx, hlink, hP, nJ_s L hL _ hk (Bool.eq_false_iff.mpr hjb) hj, hr, hlt, ho, hb⟩
theorem simLv (T : TX c n v0 f0) (hc : ∀ k, k < n → c k < 256) {w L : Nat} (hw : w ≤ 7) (hL : L < 5) (hL2 : L ≠ 2) {gs : XG} (hs : SIM c n v0 f0 w (L + 1) gs) : SIM c n v0 f0 w L (xmLv NF gs (nI L) 1600) := by
  intro v f i out st own hx hd hlow hN ho hb
  have hT := tT_s L hL
  unfold xmLv
  rcases hs v f i out st own hx hd (hlow.mono hT.2) (fun z => hN (by omega)) ho hb with ⟨v3, f3, i3, o3, P, w3, e3, x3, l3, p3, j3, r3, a3, b3, q3⟩ | ⟨v3, f3, s, j, e3, x3, s0, s2, k3, s3⟩
  · simp only [e3, ite11]
    exact simCh T hc hw hL hL2 hs hd hlow (4294967296 + NF) 0 v3 f3 i3 o3 P w3 x3 l3 (fun a ha => ⟨(p3 a ha).1, by have := (p3 a ha).2; omega⟩) j3 (fun z q => r3 (by omega) q) a3 b3 q3 (Nat.zero_le _) (by omega)
  · simp only [e3, ite01]
    exact Or.inr ⟨v3, f3, s, j, rfl, x3, s0, s2, k3, s3⟩
theorem simRel (T : TX c n v0 f0) (hc : ∀ k, k < n → c k < 256) {w : Nat} {gs : XG} (hs : SIM c n v0 f0 w 3 gs) {v : Nat → Int32} {f : Nat → Nat → Int32} {i own : Nat} {out : List (Nat × Int32)} {st : List Nat} (hx : XS c n v0 f0 v f i out own) (hd : fDp st = w) (hlow : fLow 4 st) (hN : tk_k c n i ≠ 115) (ho : own ≤ 30) (hb : out.length + fNb st ≤ 9 * own + fDp st) : YES c n v0 f0 2 (xmLv NF gs 2 1 v f) i out st own ∨ NOPE c n v0 f0 (xmLv NF gs 2 1 v f) i out st own := by
  unfold xmLv
  rcases hs v f i out st own hx hd (hlow.mono (show 4 ≤ cT 3 by decide)) (fun _ z => absurd z hN) ho hb with ⟨v3, f3, i3, o3, P, w3, e3, x3, ⟨k3, l3⟩, p3, j3, r3, a3, b3, q3⟩ | ⟨v3, f3, s, j, e3, x3, s0, s2, k3, s3⟩
  · simp only [e3, ite11]
    have hk3 := tk_lt hc i3
    have pP : ∀ a ∈ P, a ≠ 40 := fun a ha => (p3 a ha).1
    have p5 : ∀ a ∈ P, a ≠ 40 ∧ 4 < fTg a := fun a ha => ⟨(p3 a ha).1, by have := (p3 a ha).2; have : tT 3 = 5 := rfl; omega⟩
    have q3' := q3
    rw [fNb_app P st pP] at q3'
    have hnr : fHasR (P ++ st) = false := by rw [fHasR_app P p5]; exact fHasR_low hlow
    obtain ⟨M, hM⟩ : ∃ M, 4294967296 + NF = M + 2 := ⟨4294967294 + NF, by omega⟩
    rw [hM, xmCh, if_neg (show ¬ (1 : Int32) ≤ 0 by decide), x3.1.1, show gsX_X6_joins_1 NF 2 (nI (tk_k c n i3)) v3 f3 = _ from jn (L := 2) (by decide) hk3]
    by_cases hjb : jB 2 (tk_k c n i3) = true
    · rw [if_pos hjb, ite11]
      obtain ⟨j1, j2, jj3, j4, j5, j6, j7, j8, j9, j10⟩ := jB_f 2 (by decide) _ hk3 hjb
      have j6 : fTg (tk_k c n i3) = 4 := j6
      obtain ⟨v1, e1, x1⟩ := XS.adv (NF := NF) T x3
      have d1 : fDp (tk_k c n i3 :: st) = w := by show (if tk_k c n i3 = 115 ∨ tk_k c n i3 = 40 then 1 else 0) + fDp st = _; rw [if_neg (fun z => z.elim j4 jj3)]; omega
      have n1 : fNb (tk_k c n i3 :: st) = 1 + fNb st := by show (if tk_k c n i3 = 40 then 0 else 1) + fNb st = _; rw [if_neg jj3]
      have go : ∀ m, sy (tk_k c n) (tk_n c n) (m + (1 + k3)) true i out st own = sy (tk_k c n) (tk_n c n) m true (i3 + 1) (o3 ++ fMp P) (tk_k c n i3 :: st) w3 := fun m => by
        rw [show m + (1 + k3) = (m + 1) + k3 by omega, l3 (m + 1), sy_sg j2 j1 (fun z => by rw [hnr] at z; exact absurd z.2 (by decide)), fCls_app (t := fTg (tk_k c n i3)) (by rw [j6]; exact hlow) P o3 (fun a ha => ⟨pP a ha, by have := (p5 a ha).2; omega⟩)]
      have may : 3 ≤ 3 → tk_k c n (i3 + 1) = 115 → fMay (tk_k c n i3 :: st) = false := fun _ _ => by
        show (tk_k c n i3 == 40 || decide (fTg (tk_k c n i3) < 4)) = false
        rw [beq_false_of_ne jj3, decide_eq_false (by omega)]
        rfl
      simp only [e1]
      rcases hs v1 f3 (i3 + 1) (o3 ++ fMp P) (tk_k c n i3 :: st) w3 x1 d1 (Or.inr ⟨_, _, rfl, Or.inr (by rw [j6]; decide)⟩) may b3 (by rw [List.length_append, fMp_len, n1]; omega) with ⟨v2, f2, i2, o2, P2, w2, e2, x2, ⟨k2, s2⟩, p2, q2, r2, a2, b2, t2⟩ | ⟨v2, f2, s, j, e2, x2, s0, s1, k2, s2⟩
      · simp only [e2, ite11]
        have pP2 : ∀ a ∈ P2, a ≠ 40 := fun a ha => (p2 a ha).1
        have p52 : ∀ a ∈ P2, a ≠ 40 ∧ 4 < fTg a := fun a ha => ⟨(p2 a ha).1, by have := (p2 a ha).2; have : tT 3 = 5 := rfl; omega⟩
        have t2' := t2
        rw [fNb_app P2 _ pP2, n1] at t2'
        obtain ⟨v4, f4, e4, x4, _⟩ := XS.add (NF := NF) (k := tk_k c n i3) (x := 0) (y := 0) x2 (by rw [List.length_append, fMp_len]; omega) (fun _ => rfl)
        have hPP : (P2 ++ [tk_k c n i3]) ++ st = P2 ++ tk_k c n i3 :: st := by simp
        simp only [e4]
        rw [xmCh, if_pos (show (1 : Int32) ≤ 0 + 1 by decide)]
        refine Or.inl ⟨v4, f4, i2, o2, P2 ++ [tk_k c n i3], w2, rfl, ?_, ⟨k2 + (1 + k3), fun m => ?_⟩, ?_, nJ_23 q2, fun _ _ => ?_, by omega, b2, by rw [hPP]; exact t2⟩
        · rw [fMp_app, ← List.append_assoc]; exact x4
        · rw [show m + (k2 + (1 + k3)) = (m + k2) + (1 + k3) by omega, go (m + k2), s2 m, hPP]
        · intro a ha
          rcases List.mem_append.mp ha with h | h
          · have := p2 a h
            have : tT 3 = 5 := rfl
            have : tT 2 = 3 := rfl
            exact ⟨(p2 a h).1, by omega⟩
          · rw [List.mem_singleton.mp h]; exact ⟨jj3, j7⟩
        · rw [hPP, fHasR_app P2 p52]
          show (if tk_k c n i3 = 40 then false else if 4 < fTg (tk_k c n i3) then fHasR st else decide (fTg (tk_k c n i3) = 4)) = true
          rw [if_neg jj3, if_neg (by omega), decide_eq_true j6]
      · simp only [e2, ite01]
        refine Or.inr ⟨v2, f2, s, j, rfl, x2, s0, s1, k2 + (1 + k3), fun m => ?_⟩
        rw [show m + (k2 + (1 + k3)) = (m + k2) + (1 + k3) by omega, go (m + k2), s2 m]
    · rw [if_neg hjb, ite01]
      exact Or.inl ⟨v3, f3, i3, o3, P, w3, rfl, x3, ⟨k3, l3⟩, fun a ha => ⟨(p3 a ha).1, by have := (p5 a ha).2; have : tT 2 = 3 := rfl; omega⟩, nJ_23 j3, fun _ z => absurd z hjb, a3, b3, q3⟩
  · simp only [e3, ite01]
    exact Or.inr ⟨v3, f3, s, j, rfl, x3, s0, s2, k3, s3⟩
theorem simNeg7 (hc : ∀ k, k < n → c k < 256) {v : Nat → Int32} {f : Nat → Nat → Int32} {i own : Nat} {out : List (Nat × Int32)} {st : List Nat} (hx : XS c n v0 f0 v f i out own) (hd : fDp st = 7) (hm : fMay st = true) (h115 : tk_k c n i = 115) : NOPE c n v0 f0 (xmB (gsX_X6_refuse_1 NF v f)) i out st own := nopeR hc hx (fun m => sy_notF h115 hm (by omega))
theorem simNeg (T : TX c n v0 f0) (hc : ∀ k, k < n → c k < 256) {w : Nat} (hw : w ≤ 6) {gs : XG} (hs : SIM c n v0 f0 (w + 1) 2 gs) {v : Nat → Int32} {f : Nat → Nat → Int32} {i own : Nat} {out : List (Nat × Int32)} {st : List Nat} (hx : XS c n v0 f0 v f i out own) (hd : fDp st = w) (hm : fMay st = true) (h115 : tk_k c n i = 115) (ho : own ≤ 30) (hb : out.length + fNb st ≤ 9 * own + fDp st) : YES c n v0 f0 2 (xmNeg NF gs v f) i out st own ∨ NOPE c n v0 f0 (xmNeg NF gs v f) i out st own := by
  unfold xmNeg
  obtain ⟨v1, e1, x1⟩ := XS.adv (NF := NF) T hx
  simp only [e1]
  have d1 : fDp (115 :: st) = w + 1 := by show (if (115 : Nat) = 115 ∨ (115 : Nat) = 40 then 1 else 0) + fDp st = _; rw [if_pos (Or.inl rfl)]; omega
  have n1 : fNb (115 :: st) = 1 + fNb st := by show (if (115 : Nat) = 40 then 0 else 1) + fNb st = _; rw [if_neg (by decide)]
  rcases hs v1 f (i + 1) out (115 :: st) own x1 d1 (Or.inr ⟨115, st, rfl, Or.inr (by decide)⟩) (fun z => by omega) ho (by omega) with ⟨v2, f2, i2, o2, P2, w2, e2, x2, ⟨k2, s2⟩, p2, q2, r2, a2, b2, t2⟩ | ⟨v2, f2, s, j, e2, x2, s0, s1, k2, s2⟩
  · simp only [e2, ite11]
    have pP2 : ∀ a ∈ P2, a ≠ 40 := fun a ha => (p2 a ha).1
    have t2' := t2
    rw [fNb_app P2 _ pP2, n1] at t2'
    obtain ⟨v3, f3, e3, x3, _⟩ := XS.add (NF := NF) (k := 115) (x := 0) (y := 0) x2 (by rw [List.length_append, fMp_len]; omega) (fun _ => rfl)
    have hPP : (P2 ++ [115]) ++ st = P2 ++ 115 :: st := by simp
    have e3 : gsX_X4_add_1 NF 115 0 v2 f2 = (v3, f3) := e3
    simp only [e3]
    refine Or.inl ⟨v3, f3, i2, o2, P2 ++ [115], w2, rfl, ?_, ⟨k2 + 1, fun m => ?_⟩, ?_, q2, fun z1 z2 => ?_, a2, b2, by rw [hPP]; exact t2⟩
    · rw [fMp_app, ← List.append_assoc]; exact x3
    · rw [show m + (k2 + 1) = (m + k2) + 1 by omega, sy_not h115 hm (by omega), s2 m, hPP]
    · intro a ha
      rcases List.mem_append.mp ha with h | h
      · exact p2 a h
      · rw [List.mem_singleton.mp h]; exact ⟨by decide, by decide⟩
    · rw [hPP]; exact r2 z1 z2
  · simp only [e2, ite01]
    refine Or.inr ⟨v2, f2, s, j, rfl, x2, s0, s1, k2 + 1, fun m => ?_⟩
    rw [show m + (k2 + 1) = (m + k2) + 1 by omega, sy_not h115 hm (by omega), s2 m]
theorem fMay_low {st : List Nat} (h : fLow 4 st) : fMay st = true := by
  rcases h with rfl | ⟨a, l, rfl, h⟩
  · rfl
  · show (a == 40 || decide (fTg a < 4)) = true
    rcases h with h | h
    · rw [h]; rfl
    · rw [decide_eq_true h]; exact Bool.or_true _
theorem simOne (T : TX c n v0 f0) (hc : ∀ k, k < n → c k < 256) {w : Nat} {gn gs : XG} (hs : SIM c n v0 f0 w 3 gs) (hn : ∀ v f i out st own, XS c n v0 f0 v f i out own → fDp st = w → fMay st = true → tk_k c n i = 115 → own ≤ 30 → out.length + fNb st ≤ 9 * own + fDp st → YES c n v0 f0 2 (gn v f) i out st own ∨ NOPE c n v0 f0 (gn v f) i out st own) : SIM c n v0 f0 w 2 (xmOne NF gn gs) := by
  intro v f i out st own hx hd hlow hN ho hb
  have hk := tk_lt hc i
  have hlow : fLow 4 st := hlow
  unfold xmOne
  rw [hx.1.1]
  by_cases h : tk_k c n i = 115
  · rw [if_pos (by rw [h]; rfl)]
    exact xmB_or (hn v f i out st own hx hd (fMay_low hlow) h ho hb)
  · rw [if_neg (nlit 115 115 rfl (by omega) (by decide) h)]
    exact simRel T hc hs hx hd hlow h ho hb
end
end
