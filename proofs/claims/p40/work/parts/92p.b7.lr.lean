section
variable {NF : Nat}
def LRm (f f1 : Nat → Nat → Int32) (a : Nat) : Prop := ∀ j, j < a → f 1 j = f1 9 j ∧ f 1 (6 + j) = f1 10 j ∧ f 1 (12 + j) = f1 11 j ∧ MB (f 1 j) (f 1 (6 + j)) (f 1 (12 + j))
def LRc (f f1 : Nat → Nat → Int32) (b : Nat) : Prop := ∀ j, j < b → f 2 j = f1 12 j ∧ f 2 (6 + j) = f1 13 j ∧ f 2 (12 + j) = f1 14 j ∧ f 2 (18 + j) = f1 15 j ∧ CB (f 2 j) (f 2 (6 + j)) (f 2 (12 + j)) (f 2 (18 + j))
def LRo (t : Nat) (v : Nat → Int32) (f : Nat → Nat → Int32) (v1 : Nat → Int32) (f1 : Nat → Nat → Int32) : Prop := (t % 2 = 0 → v 16 = 0 ∧ v 17 = 0 ∧ v1 11 = 0) ∧ (t % 2 = 1 → ∃ (out : List (Nat × Int32)) (own : Nat), v 16 = nI out.length ∧ v1 8 = nI out.length ∧ out.length ≤ 270 ∧ OUTX out f ∧ OUTY out f1 ∧ v 17 = nI own ∧ v1 11 = nI own ∧ own ≤ 30 ∧ WFo out own)
def LRt (t : Nat) (v v1 : Nat → Int32) : Prop := t < 64 ∧ v 6 = nI t ∧ v1 15 = nI (t % 2) ∧ v1 30 = nI (t / 2 % 2) ∧ v1 31 = nI (t / 4 % 2) ∧ v1 32 = nI (t / 8 % 2) ∧ v1 33 = nI (t / 16 % 2) ∧ v1 34 = nI (t / 32 % 2)
def SB (a b c d e : Int32) : Prop := (0 ≤ a ∧ a ≤ 999) ∧ (0 ≤ b ∧ b ≤ 999) ∧ (0 ≤ c ∧ c ≤ 99) ∧ (0 ≤ d ∧ d ≤ 100) ∧ (0 ≤ e ∧ e ≤ 999)
def LRs (v v1 : Nat → Int32) : Prop := v 11 = v1 19 ∧ v 12 = v1 20 ∧ v 13 = v1 21 ∧ v 14 = v1 22 ∧ v 15 = v1 23 ∧ SB (v 11) (v 12) (v 13) (v 14) (v 15)
def LR (c : Nat → Nat) (n : Nat) (v : Nat → Int32) (f : Nat → Nat → Int32) (v1 : Nat → Int32) (f1 : Nat → Nat → Int32) (w1 : Int64) (g : Nat → Int64) (i a b t : Nat) : Prop := TP c n i v f v1 f1 w1 ∧ (v 7 = 0 ∧ v 8 = -1 ∧ v1 2 = -1) ∧ (v 9 = nI a ∧ v1 17 = nI a ∧ a ≤ 6) ∧ (v 10 = nI b ∧ v1 18 = nI b ∧ b ≤ 6) ∧ LRm f f1 a ∧ LRc f f1 b ∧ (∀ j, j < a → NMx c n (f 7 j) (g (0 + j))) ∧ (∀ j, j < b → NMx c n (f 8 j) (g (6 + j))) ∧ LRt t v v1 ∧ LRs v v1 ∧ LRo t v f v1 f1
def tBits (t : Nat) : Nat := t % 2 + t / 2 % 2 + t / 4 % 2 + t / 8 % 2 + t / 16 % 2 + t / 32 % 2
theorem LR.go {c : Nat → Nat} {n : Nat} {v v' : Nat → Int32} {f : Nat → Nat → Int32} {v1 v1' : Nat → Int32} {f1 : Nat → Nat → Int32} {w1 w1' : Int64} {g : Nat → Int64} {i i' a b t : Nat} (h : LR c n v f v1 f1 w1 g i a b t) (x : X4 v v') (y : Y4 v1 v1') (h' : TP c n i' v' f v1' f1 w1') : LR c n v' f v1' f1 w1' g i' a b t := by
  obtain ⟨_, ⟨p7, p8, p2⟩, ⟨a1, a2, a3⟩, ⟨b1, b2, b3⟩, m, d, n1, n2, ⟨t0, t6, t15, t30, t31, t32, t33, t34⟩, ⟨s1, s2, s3, s4, s5, s6⟩, o1, o2⟩ := h
  have X : ∀ k, 6 ≤ k → v' k = v k := fun k hk => x k (by omega) (by omega) (by omega) (by omega)
  have Y : ∀ k, 8 ≤ k → v1' k = v1 k := fun k hk => y k (by omega) (by omega) (by omega) (by omega)
  refine ⟨h', ⟨(X 7 (by decide)).trans p7, (X 8 (by decide)).trans p8, (y 2 (by decide) (by decide) (by decide) (by decide)).trans p2⟩, ⟨(X 9 (by decide)).trans a1, (Y 17 (by decide)).trans a2, a3⟩, ⟨(X 10 (by decide)).trans b1, (Y 18 (by decide)).trans b2, b3⟩, m, d, n1, n2, ⟨t0, (X 6 (by decide)).trans t6, (Y 15 (by decide)).trans t15, (Y 30 (by decide)).trans t30, (Y 31 (by decide)).trans t31, (Y 32 (by decide)).trans t32, (Y 33 (by decide)).trans t33, (Y 34 (by decide)).trans t34⟩, ⟨by rw [X 11 (by decide), Y 19 (by decide)]; exact s1, by rw [X 12 (by decide), Y 20 (by decide)]; exact s2, by rw [X 13 (by decide), Y 21 (by decide)]; exact s3, by rw [X 14 (by decide), Y 22 (by decide)]; exact s4, by rw [X 15 (by decide), Y 23 (by decide)]; exact s5, by rw [X 11 (by decide), X 12 (by decide), X 13 (by decide), X 14 (by decide), X 15 (by decide)]; exact s6⟩, fun z => ?_, fun z => ?_⟩
  · rw [X 16 (by decide), X 17 (by decide), Y 11 (by decide)]; exact o1 z
  · rw [X 16 (by decide), X 17 (by decide), Y 11 (by decide), Y 8 (by decide)]; exact o2 z
def yTail (NF : Nat) (v : Nat → Int32) (f : Nat → Nat → Int32) (w : Int64) (g : Nat → Int64) : (Nat → Int32) × (Nat → Nat → Int32) × Int64 × (Nat → Int64) :=
  if (v 1) = 0 then
    if (v 5) = 59 then
      if (v 1) = 0 then
        match gsY_X11_token_1 NF v f w g with
        | (v517, f518, w519, g520) => (v517, f518, w519, g520)
      else (v, f, w, g)
    else
      match gsY_X11_wrong_1 NF 2 v f w g with
      | (v527, f528, w529, g530) =>
        if (v527 1) = 0 then
          match gsY_X11_token_1 NF v527 f528 w529 g530 with
          | (v539, f540, w541, g542) => (v539, f540, w541, g542)
        else (v527, f528, w529, g530)
  else
    if (v 1) = 0 then
      match gsY_X11_token_1 NF v f w g with
      | (v505, f506, w507, g508) => (v505, f506, w507, g508)
    else (v, f, w, g)
theorem yTail_f {v1 : Nat → Int32} {f1 : Nat → Nat → Int32} {w1 : Int64} {g : Nat → Int64} {s : Nat} (h1 : v1 1 = nI s) (h0 : 0 < s) (hs : s < 100) : yTail NF v1 f1 w1 g = (v1, f1, w1, g) := by
  have e2 : ¬ nI s = 0 := nI_ne0 h0 (by omega)
  simp only [yTail, h1, if_neg e2]
theorem closePair {c : Nat → Nat} {n i : Nat} {v : Nat → Int32} {f : Nat → Nat → Int32} {v1 : Nat → Int32} {f1 : Nat → Nat → Int32} {w1 : Int64} {g : Nat → Int64} (hc : ∀ k, k < n → c k < 256) (h : TP c n i v f v1 f1 w1) :
    (∃ (v' v1' : Nat → Int32) (w1' : Int64), gsX_X6_closing_1 NF v f = (1, v', f) ∧ yTail NF v1 f1 w1 g = (v1', f1, w1', g) ∧ TP c n (i + 1) v' f v1' f1 w1' ∧ X4 v v' ∧ Y4 v1 v1') ∨
    (∃ (v' v1' : Nat → Int32), gsX_X6_closing_1 NF v f = (0, v', f) ∧ yTail NF v1 f1 w1 g = (v1', f1, w1, g) ∧ FP c n v v' v1 v1') := by
  have hk := tk_lt hc i
  have h' := h
  obtain ⟨T, T1, C, C1, hf⟩ := h
  obtain ⟨_, _, _, t59, _⟩ := tS40 _ hk
  simp only [gsX_X6_closing_1, gsX_X6_taken_1, yTail, C.1, C1.2.1, hf]
  by_cases e : tk_k c n i = 59
  · obtain ⟨v', v1', w1', a1, a2, a3, a4, a5⟩ := TP.adv (NF := NF) (g := g) h' (by omega)
    rw [if_pos (show nI (tk_k c n i) = (59 : Int32) by rw [e]; rfl), if_pos trivial, if_pos (t59.mpr e), if_pos trivial]
    simp only [a1, a2]
    exact Or.inl ⟨v', v1', w1', by first | rfl | exact if_pos trivial | exact if_pos rfl, rfl, a3, a4, a5⟩
  · obtain ⟨v', v1', a, b, d, s, s0, s1, s2⟩ := TP.ref (NF := NF) (g := g) hc h'
    rw [if_neg (nlit 59 59 rfl (by omega) (by decide) e), if_pos trivial, if_neg (fun z => e (t59.mp z))]
    simp only [a, b, ite01, s2]
    rw [if_neg (nI_ne0 s0 (by omega))]
    exact Or.inr ⟨v', v1', by first | rfl | exact if_neg (by decide), rfl, d⟩
theorem opn : ∀ t, t < 64 → ∀ d, d < 6 → ((nI t &&& ((1 : Int32) <<< ((nI (103 + d) - 103) &&& 31))) = 0 ↔ t / 2 ^ d % 2 = 0) ∧ (t / 2 ^ d % 2 = 0 → nI t ||| ((1 : Int32) <<< ((nI (103 + d) - 103) &&& 31)) = nI (t + 2 ^ d) ∧ t + 2 ^ d < 64 ∧ tBits (t + 2 ^ d) = tBits t + 1 ∧ (∀ e, e < 6 → (t + 2 ^ d) / 2 ^ e % 2 = if e = d then 1 else t / 2 ^ e % 2)) := by decide +kernel
end
