section
variable {NF : Nat}
def agr (d : Nat) (s s1 : Nat → Int32) : Prop := ∀ k, k < d → s k = s1 k
theorem agr.push {d : Nat} {s s1 : Nat → Int32} {x y : Int32} (h : agr d s s1) (e : x = y) : agr (d + 1) (upd s d x) (upd s1 d y) := fun k hk => by
  by_cases c : k = d
  · rw [c, pk_us, pk_us]; exact e
  · rw [pk_un c, pk_un c]; exact h k (by omega)
theorem agr.set {d j : Nat} {s s1 : Nat → Int32} {x y : Int32} (h : agr d s s1) (e : x = y) : agr d (upd s j x) (upd s1 j y) := fun k hk => by
  by_cases c : k = j
  · rw [c, pk_us, pk_us]; exact e
  · rw [pk_un c, pk_un c]; exact h k hk
theorem agr.less {d e : Nat} {s s1 : Nat → Int32} (h : agr d s s1) (he : e ≤ d) : agr e s s1 := fun k hk => h k (by omega)
theorem joinP {K : Nat} (h : fSg K = true) (a b : Int32) (v : Nat → Int32) (f : Nat → Nat → Int32) (v1 : Nat → Int32) (f1 : Nat → Nat → Int32) (w1 : Int64) (g : Nat → Int64) : gsX_X4_joined_1 NF (nI K) a b v f = gsY_X11_done_1 NF (nI (eS K)) a b v1 f1 w1 g := by
  simp only [fSg, List.contains_eq_mem, decide_eq_true_eq, List.mem_cons, List.mem_nil_iff, or_false] at h
  rcases h with h | h | h | h | h | h | h | h | h | h <;> (subst h; rfl)
theorem sg_lt {K : Nat} (h : fSg K = true) : K < 115 ∧ K ≠ 2 ∧ eA K = 3 ∧ ∀ x, eB K x = nI (eS K) := by
  simp only [fSg, List.contains_eq_mem, decide_eq_true_eq, List.mem_cons, List.mem_nil_iff, or_false] at h
  rcases h with h | h | h | h | h | h | h | h | h | h <;> (subst h; exact ⟨by decide, by decide, rfl, fun _ => rfl⟩)
def cl9 (x : Int32) : Int32 := if 0 ≤ x then (if x ≤ 999 then x else 999) else 0
theorem cl9X (x : Int32) : (if (0 : Int32) < (if x < (999 : Int32) then x else (999 : Int32)) then (if x < (999 : Int32) then x else (999 : Int32)) else (0 : Int32)) = cl9 x := by
  have z0 : (0 : Int32).toInt = 0 := by decide
  have z9 : (999 : Int32).toInt = 999 := by decide
  unfold cl9
  by_cases c : x < 999
  · have c' := (fa_lt _ _).mp c
    rw [if_pos c]
    by_cases d : 0 < x
    · have d' := (fa_lt _ _).mp d
      rw [if_pos d, if_pos ((fa_le _ _).mpr (by omega)), if_pos ((fa_le _ _).mpr (by omega))]
    · have d' : ¬ (0 : Int32).toInt < x.toInt := fun z => d ((fa_lt _ _).mpr z)
      rw [if_neg d]
      by_cases e : 0 ≤ x
      · have e' := (fa_le _ _).mp e
        have e0 : x = 0 := Int32.toInt_inj.mp (by omega)
        rw [if_pos e, e0]
        exact (if_pos (by decide)).symm
      · rw [if_neg e]
  · have c' : ¬ x.toInt < (999 : Int32).toInt := fun z => c ((fa_lt _ _).mpr z)
    rw [if_neg c, if_pos (by decide), if_pos ((fa_le _ _).mpr (by omega))]
    by_cases e : x ≤ 999
    · have e' := (fa_le _ _).mp e
      have e0 : x = 999 := Int32.toInt_inj.mp (by omega)
      rw [if_pos e, e0]
    · rw [if_neg e]
theorem cl9_rng (x : Int32) : 0 ≤ cl9 x ∧ cl9 x ≤ 999 := by
  unfold cl9
  by_cases c : 0 ≤ x
  · rw [if_pos c]
    by_cases d : x ≤ 999
    · rw [if_pos d]; exact ⟨c, d⟩
    · rw [if_neg d]; exact ⟨by decide, by decide⟩
  · rw [if_neg c]; exact ⟨by decide, by decide⟩
section
variable {v v1 : Nat → Int32} {f0 f10 : Nat → Nat → Int32} {w1 : Int64} {g : Nat → Int64} {out : List (Nat × Int32)}
theorem evLoop (hv : v 18 = nI out.length) (hv1 : v1 9 = nI out.length) (hl : out.length ≤ 270) (hk : ∀ x ∈ out, okK x.1) (hO : ∀ j, j < out.length → f0 11 j = nI (out.getD j (0, 0)).1 ∧ ((out.getD j (0, 0)).1 = 2 → f0 12 j = (out.getD j (0, 0)).2) ∧ f10 4 j = nI (eA (out.getD j (0, 0)).1) ∧ f10 5 j = eB (out.getD j (0, 0)).1 (out.getD j (0, 0)).2) (hA : agr 6 (f0 14) (f10 8)) :
    ∀ (n i d fu fu1 : Nat) (f f1 : Nat → Nat → Int32), i + n = out.length → n < fu → n < fu1 → wfS (out.drop i) d = some 1 → d + wfN (out.drop i) ≤ 30 → (∀ q, q ≠ 13 → f q = f0 q) → (∀ q, q ≠ 7 → f1 q = f10 q) → agr d (f 13) (f1 7) →
      ∃ (r : Int32) (F F1 : Nat → Nat → Int32), gsX_X4_worth_1_L16 NF fu (nI d) (nI i) v f = (r, v, F) ∧ gsY_X11_misfitOf_1_L30 NF v1 fu1 (nI d) (nI i) v1 f1 w1 g = (r, v1, F1, w1, g) ∧ (∀ q, q ≠ 13 → F q = f0 q) ∧ (∀ q, q ≠ 7 → F1 q = f10 q) ∧ (0 ≤ r ∧ r ≤ 999) := by
  intro n
  induction n with
  | zero =>
    intro i d fu fu1 f f1 hi hfu hfu1 hw hd hF hF1 ha
    obtain ⟨fu, rfl⟩ : ∃ z, fu = z + 1 := ⟨fu - 1, by omega⟩
    obtain ⟨fu1, rfl⟩ : ∃ z, fu1 = z + 1 := ⟨fu1 - 1, by omega⟩
    have ei : i = out.length := by omega
    rw [ei, List.drop_length] at hw
    have hd1 : d = 1 := by simpa [wfS] using hw
    have le : nI out.length ≤ nI i := nI_le (by omega) (by omega)
    have e0 : f1 7 0 = f 13 0 := (ha 0 (by omega)).symm
    refine ⟨cl9 (f 13 0), f, f1, ?_, ?_, hF, hF1, cl9_rng _⟩
    · simp only [gsX_X4_worth_1_L16, hv]
      rw [if_pos le]
      have q := cl9X (f 13 0)
      have q0 : (0 : Int32).toNatClampNeg = 0 := by decide
      rw [q0, q]
    · simp only [gsY_X11_misfitOf_1_L30, hv1, gsY_X11_within_1]
      rw [if_pos le]
      have q0 : (0 : Int32).toNatClampNeg = 0 := by decide
      rw [q0, e0]
      rfl
  | succ n ih =>
    intro i d fu fu1 f f1 hi hfu hfu1 hw hd hF hF1 ha
    obtain ⟨fu, rfl⟩ : ∃ z, fu = z + 1 := ⟨fu - 1, by omega⟩
    obtain ⟨fu1, rfl⟩ : ∃ z, fu1 = z + 1 := ⟨fu1 - 1, by omega⟩
    have hil : i < out.length := by omega
    have nle : ¬ nI out.length ≤ nI i := nI_ge hil (by omega)
    have n300 : ¬ (300 : Int32) ≤ nI i := lit_nle (b := 300) rfl (by omega) (by decide)
    obtain ⟨o1, o2, o3, o4⟩ := hO i hil
    have ed : out.drop i = out[i] :: out.drop (i + 1) := List.drop_eq_getElem_cons hil
    have eg : out.getD i (0, 0) = out[i] := by simp [List.getD_eq_getElem?_getD, hil]
    rw [eg] at o1 o2 o3 o4
    have ok : okK out[i].1 := hk _ (List.getElem_mem hil)
    rw [ed] at hw hd
    rw [← hF 11 (by decide)] at o1
    rw [← hF 12 (by decide)] at o2
    rw [← hF1 4 (by decide)] at o3
    rw [← hF1 5 (by decide)] at o4
    generalize out[i] = x at *
    obtain ⟨K, y⟩ := x
    have o1 : f 11 i = nI K := o1
    have o2 : K = 2 → f 12 i = y := o2
    have o3 : f1 4 i = nI (eA K) := o3
    have o4 : f1 5 i = eB K y := o4
    have hw : (if wfP K = true then wfS (out.drop (i + 1)) (d + 1) else if K = 115 then (if 1 ≤ d then wfS (out.drop (i + 1)) d else none) else (if 2 ≤ d then wfS (out.drop (i + 1)) (d - 1) else none)) = some 1 := hw
    have hd : d + ((if wfP K = true then 1 else 0) + wfN (out.drop (i + 1))) ≤ 30 := hd
    have ci : (nI i).toNatClampNeg = i := nI_clamp (by omega)
    have cd : (nI d).toNatClampNeg = d := nI_clamp (by omega)
    rcases ok with hp | rfl | hs
    · have hp : wfP K = true := hp
      rw [if_pos hp] at hw hd
      have d30 : ¬ (30 : Int32) ≤ nI d := lit_nle (b := 30) rfl (by omega) (by decide)
      have hp' : K = 2 ∨ (116 ≤ K ∧ K ≤ 121) := by
        simp only [wfP, Bool.or_eq_true, beq_iff_eq, Bool.and_eq_true, decide_eq_true_eq] at hp
        exact hp
      have hK : K < 2 ^ 31 := by omega
      by_cases c2 : K = 2
      · subst c2
        obtain ⟨r, F, F1, a1, a2, a3, a4, a5⟩ := ih (i + 1) (d + 1) fu fu1 (upd2 f 13 (upd (f 13) d (f 12 i))) (upd2 f1 7 (upd (f1 7) d (f1 5 i))) (by omega) (by omega) (by omega) hw (by omega) (fun q hq => (u2n hq).trans (hF q hq)) (fun q hq => (u2n hq).trans (hF1 q hq)) (ha.push (by rw [o2 rfl, o4]; rfl))
        refine ⟨r, F, F1, ?_, ?_, a3, a4, a5⟩
        · rw [← a1]
          simp only [gsX_X4_worth_1_L16, hv, ci, o1, cd, nI_1]
          rw [if_neg nle, if_neg n300, if_pos (show nI 2 = (2 : Int32) from rfl), if_neg d30, if_pos (show nI 2 = (2 : Int32) from rfl)]
        · rw [← a2]
          simp only [gsY_X11_misfitOf_1_L30, hv1, ci, o3, cd, nI_1]
          rw [if_neg nle, if_pos (show nI (eA 2) = (0 : Int32) from rfl), if_pos (show nI (eA 2) = (0 : Int32) from rfl)]
      · obtain ⟨k1, k2⟩ := hp'.resolve_left c2
        have eA1 : eA K = 1 := by unfold eA; rw [if_neg c2, if_pos ⟨k1, k2⟩]
        have eB1 : eB K y = nI (K - 116) := by unfold eB; rw [if_neg c2, if_pos ⟨k1, k2⟩]
        have x2 : ¬ nI K = (2 : Int32) := nlit 2 2 rfl hK (by decide) c2
        have x116 : ¬ nI K < (116 : Int32) := nI_nlt (b := 116) k1 hK
        have x122 : ¬ (122 : Int32) ≤ nI K := lit_nle (b := 122) rfl (by omega) (by decide)
        have e116 : nI K - 116 = nI (K - 116) := nI_subI (b := 116) k1
        have c116 : (nI (K - 116)).toNatClampNeg = K - 116 := nI_clamp (by omega)
        rw [eA1] at o3
        rw [eB1] at o4
        obtain ⟨r, F, F1, a1, a2, a3, a4, a5⟩ := ih (i + 1) (d + 1) fu fu1 (upd2 f 13 (upd (f 13) d (f 14 (K - 116)))) (upd2 f1 7 (upd (f1 7) d (f1 8 (K - 116)))) (by omega) (by omega) (by omega) hw (by omega) (fun q hq => (u2n hq).trans (hF q hq)) (fun q hq => (u2n hq).trans (hF1 q hq)) (ha.push (by rw [hF 14 (by decide), hF1 8 (by decide)]; exact hA _ (by omega)))
        refine ⟨r, F, F1, ?_, ?_, a3, a4, a5⟩
        · rw [← a1]
          simp only [gsX_X4_worth_1_L16, hv, ci, o1, cd, nI_1, e116, c116]
          rw [if_neg nle, if_neg n300, if_neg x2, if_neg x116, if_neg x122, if_neg d30, if_neg x2]
        · rw [← a2]
          simp only [gsY_X11_misfitOf_1_L30, hv1, ci, o3, o4, cd, nI_1, c116]
          rw [if_neg nle, if_neg (show ¬ nI 1 = (0 : Int32) by decide), if_pos (show nI 1 = (1 : Int32) from rfl), if_neg (show ¬ nI 1 = (0 : Int32) by decide)]
    · rw [if_neg (show ¬ wfP 115 = true by decide)] at hw hd
      rw [if_pos rfl] at hw
      by_cases cd1 : 1 ≤ d
      · rw [if_pos cd1] at hw
        have x1 : ¬ nI d < (1 : Int32) := nI_nlt (b := 1) cd1 (by omega)
        have e1 : nI d - 1 = nI (d - 1) := nI_subI (b := 1) cd1
        have c1 : (nI (d - 1)).toNatClampNeg = d - 1 := nI_clamp (by omega)
        have es : f 13 (d - 1) = f1 7 (d - 1) := ha _ (by omega)
        have t1 : gsY_X11_truth_1 NF 1 v1 f1 w1 g = 1 := rfl
        have t0 : gsY_X11_truth_1 NF 0 v1 f1 w1 g = 0 := rfl
        have o3 : f1 4 i = nI 2 := o3
        obtain ⟨r, F, F1, a1, a2, a3, a4, a5⟩ := ih (i + 1) d fu fu1 (upd2 f 13 (upd (f 13) (d - 1) (if f1 7 (d - 1) = 0 then 1 else 0))) (upd2 f1 7 (upd (f1 7) (d - 1) (if f1 7 (d - 1) = 0 then 1 else 0))) (by omega) (by omega) (by omega) hw (by omega) (fun q hq => (u2n hq).trans (hF q hq)) (fun q hq => (u2n hq).trans (hF1 q hq)) (ha.set rfl)
        refine ⟨r, F, F1, ?_, ?_, a3, a4, a5⟩
        · rw [← a1]
          simp only [gsX_X4_worth_1_L16, hv, ci, o1, nI_1, e1, c1, es]
          rw [if_neg nle, if_neg n300, if_neg (show ¬ nI 115 = (2 : Int32) by decide), if_pos (show nI 115 < (116 : Int32) by decide), if_pos (show nI 115 = (115 : Int32) from rfl), if_neg x1]
          by_cases z : f1 7 (d - 1) = 0
          · rw [if_pos z, if_pos z]
          · rw [if_neg z, if_neg z]
        · rw [← a2]
          simp only [gsY_X11_misfitOf_1_L30, hv1, ci, o3, nI_1, e1, c1, t1, t0]
          rw [if_neg nle, if_neg (show ¬ nI 2 = (0 : Int32) by decide), if_neg (show ¬ nI 2 = (1 : Int32) by decide), if_pos (show nI 2 = (2 : Int32) from rfl)]
          by_cases z : f1 7 (d - 1) = 0
          · rw [if_pos z, if_pos z]
          · rw [if_neg z, if_neg z]
      · rw [if_neg cd1] at hw; cases hw
    · have hs : fSg K = true := hs
      obtain ⟨g1, g2, g3⟩ := wf_sg' hs
      obtain ⟨s1, s2, s3, s4⟩ := sg_lt hs
      rw [if_neg (show ¬ wfP K = true by rw [g1]; decide)] at hw hd
      rw [if_neg g3] at hw
      by_cases cd2 : 2 ≤ d
      · rw [if_pos cd2] at hw
        have hK : K < 2 ^ 31 := by omega
        have x2 : ¬ nI d < (2 : Int32) := nI_nlt (b := 2) cd2 (by omega)
        have e1 : nI d - 1 = nI (d - 1) := nI_subI (b := 1) (by omega)
        have e2 : nI d - 2 = nI (d - 2) := nI_subI (b := 2) cd2
        have em : nI d + (-1) = nI (d - 1) := by rw [← e1]; exact (Int32.sub_eq_add_neg _ _).symm
        have e3 : nI (d - 1) - 1 = nI (d - 2) := nI_subI (b := 1) (by omega)
        have c1 : (nI (d - 1)).toNatClampNeg = d - 1 := nI_clamp (by omega)
        have c2 : (nI (d - 2)).toNatClampNeg = d - 2 := nI_clamp (by omega)
        have k2 : ¬ nI K = (2 : Int32) := nlit 2 2 rfl hK (by decide) s2
        have k116 : nI K < (116 : Int32) := nI_lt (b := 116) (by omega) (by decide)
        have k115 : ¬ nI K = (115 : Int32) := nlit 115 115 rfl hK (by decide) g3
        rw [s3] at o3
        rw [s4] at o4
        have ea : f 13 (d - 2) = f1 7 (d - 2) := ha _ (by omega)
        have eb : f 13 (d - 1) = f1 7 (d - 1) := ha _ (by omega)
        obtain ⟨r, F, F1, a1, a2, a3, a4, a5⟩ := ih (i + 1) (d - 1) fu fu1 (upd2 f 13 (upd (f 13) (d - 2) (gsX_X4_joined_1 NF (nI K) (f1 7 (d - 2)) (f1 7 (d - 1)) v f))) (upd2 f1 7 (upd (f1 7) (d - 2) (gsX_X4_joined_1 NF (nI K) (f1 7 (d - 2)) (f1 7 (d - 1)) v f))) (by omega) (by omega) (by omega) hw (by omega) (fun q hq => (u2n hq).trans (hF q hq)) (fun q hq => (u2n hq).trans (hF1 q hq)) ((ha.less (by omega)).set rfl)
        refine ⟨r, F, F1, ?_, ?_, a3, a4, a5⟩
        · rw [← a1]
          simp only [gsX_X4_worth_1_L16, hv, ci, o1, nI_1, e1, e2, em, c1, c2, ea, eb]
          rw [if_neg nle, if_neg n300, if_neg k2, if_pos k116, if_neg k115, if_neg x2]
        · rw [← a2, joinP hs _ _ v f v1 f1 w1 g]
          simp only [gsY_X11_misfitOf_1_L30, hv1, ci, o3, o4, nI_1, em, e3, c1, c2]
          rw [if_neg nle, if_neg (show ¬ nI 3 = (0 : Int32) by decide), if_neg (show ¬ nI 3 = (1 : Int32) by decide), if_neg (show ¬ nI 3 = (2 : Int32) by decide)]
      · rw [if_neg cd2] at hw; cases hw
end
theorem ovX {P Q : Nat} (hP : P < 2 ^ 31) (hQ : Q < 2 ^ 31) : (if (0 : Int32) < nI P - nI Q then nI P - nI Q else (0 : Int32)) = nI (P - Q) := by
  by_cases c : Q < P
  · rw [nI_subI (by omega), if_pos (show (0 : Int32) < nI (P - Q) from nI_lt (a := 0) (by omega) (by omega))]
  · have e : P - Q = 0 := by omega
    rw [e]
    by_cases d : P = Q
    · rw [d, nI_subI (Nat.le_refl _), Nat.sub_self]
      exact if_neg (by decide)
    · refine if_neg (fun z => ?_)
      have z' := (fa_lt _ _).mp z
      have z0 : (0 : Int32).toInt = 0 := by decide
      rw [z0, Int32.toInt_sub, nI_toInt hP, nI_toInt hQ, bmod_in (by omega) (by omega)] at z'
      omega
theorem ovY {P Q : Nat} (hP : P < 2 ^ 31) (hQ : Q < 2 ^ 31) {v1 : Nat → Int32} {f1 : Nat → Nat → Int32} {w1 : Int64} {g : Nat → Int64} : gsY_X11_over_1 NF (nI P) (nI Q) v1 f1 w1 g = nI (P - Q) := by
  simp only [gsY_X11_over_1]
  by_cases c : P ≤ Q
  · rw [if_pos (nI_le c hQ), show P - Q = 0 by omega]; rfl
  · rw [if_neg (nI_ge (by omega) hP), nI_subI (by omega)]
def dfI (P1 P2 P3 P4 P5 : Nat) : Nat := (P2 - P4) * 3 + (P4 - P2) + (P1 - P3) * 2 + (P3 - P1) + P5
def df9 (n : Nat) : Int32 := if n < 999 then nI n else 999
theorem df9_rng (n : Nat) (hn : n < 2 ^ 31) : 0 ≤ df9 n ∧ df9 n ≤ 999 := by
  unfold df9
  by_cases c : n < 999
  · rw [if_pos c]; exact ⟨nI_pos' hn, nI_le (b := 999) (by omega) (by decide)⟩
  · rw [if_neg c]; exact ⟨by decide, by decide⟩
theorem cN0 : (0 : Int32).toNatClampNeg = 0 := by decide
theorem cN1 : (1 : Int32).toNatClampNeg = 1 := by decide
theorem cN2 : (2 : Int32).toNatClampNeg = 2 := by decide
theorem cN3 : (3 : Int32).toNatClampNeg = 3 := by decide
theorem cN4 : (4 : Int32).toNatClampNeg = 4 := by decide
theorem cN5 : (5 : Int32).toNatClampNeg = 5 := by decide
theorem cN37 : (37 : Int32).toNatClampNeg = 37 := by decide
theorem cN42 : (42 : Int32).toNatClampNeg = 42 := by decide
theorem cN43 : (43 : Int32).toNatClampNeg = 43 := by decide
theorem cN38 : (38 : Int32).toNatClampNeg = 38 := by decide
theorem cN36 : (36 : Int32).toNatClampNeg = 36 := by decide
theorem worthX {P1 P2 P3 P4 P5 P6 : Nat} (h1 : P1 ≤ 9999) (h2 : P2 ≤ 9999) (h3 : P3 ≤ 9999) (h4 : P4 ≤ 9999) (h5 : P5 ≤ 9999) {v : Nat → Int32} {f : Nat → Nat → Int32} : ∃ G : Nat → Int32, (G 0 = nI (P2 - P4) ∧ G 1 = nI (P4 - P2) ∧ G 2 = nI (P1 - P3) ∧ G 3 = nI (P3 - P1) ∧ G 4 = nI P5 ∧ G 5 = nI P6) ∧ gsX_X4_worth_1 NF (nI P1) (nI P2) (nI P3) (nI P4) (nI P5) (nI P6) v f = (if v 18 = 0 then (df9 (dfI P1 P2 P3 P4 P5), v, upd2 f 14 G) else gsX_X4_worth_1_L16 NF (4294967296 + NF) 0 0 v (upd2 f 14 G)) := by
  generalize hG : upd (upd (upd (upd (upd (upd (f 14) 0 (nI (P2 - P4))) 1 (nI (P4 - P2))) 2 (nI (P1 - P3))) 3 (nI (P3 - P1))) 4 (nI P5)) 5 (nI P6) = G
  have g0 : G 0 = nI (P2 - P4) := by rw [← hG]; rfl
  have g1 : G 1 = nI (P4 - P2) := by rw [← hG]; rfl
  have g2 : G 2 = nI (P1 - P3) := by rw [← hG]; rfl
  have g3 : G 3 = nI (P3 - P1) := by rw [← hG]; rfl
  have g4 : G 4 = nI P5 := by rw [← hG]; rfl
  have g5 : G 5 = nI P6 := by rw [← hG]; rfl
  refine ⟨G, ⟨g0, g1, g2, g3, g4, g5⟩, ?_⟩
  simp only [gsX_X4_worth_1, cN0, cN1, cN2, cN3, cN4, cN5, ovX (show P2 < 2 ^ 31 by omega) (show P4 < 2 ^ 31 by omega), ovX (show P4 < 2 ^ 31 by omega) (show P2 < 2 ^ 31 by omega), ovX (show P1 < 2 ^ 31 by omega) (show P3 < 2 ^ 31 by omega), ovX (show P3 < 2 ^ 31 by omega) (show P1 < 2 ^ 31 by omega), upd2_2, u2s, hG, g0, g1, g2, g3]
  have e3 : nI (P2 - P4) * 3 = nI ((P2 - P4) * 3) := nI_mulI _ 3
  have e2 : nI (P1 - P3) * 2 = nI ((P1 - P3) * 2) := nI_mulI _ 2
  rw [e3, e2, nI_add, nI_add, nI_add, nI_add]
  by_cases c : v 18 = 0
  · rw [if_pos c, if_pos c]
    have q : (if nI ((P2 - P4) * 3 + (P4 - P2) + (P1 - P3) * 2 + (P3 - P1) + P5) < (999 : Int32) then nI ((P2 - P4) * 3 + (P4 - P2) + (P1 - P3) * 2 + (P3 - P1) + P5) else (999 : Int32)) = df9 (dfI P1 P2 P3 P4 P5) := by
      unfold df9 dfI
      by_cases d : (P2 - P4) * 3 + (P4 - P2) + (P1 - P3) * 2 + (P3 - P1) + P5 < 999
      · rw [if_pos d, if_pos (show nI _ < (999 : Int32) from nI_lt (b := 999) d (by decide))]
      · rw [if_neg d, if_neg (show ¬ nI _ < (999 : Int32) from nI_nlt (b := 999) (by omega) (by omega))]
    rw [q]
  · rw [if_neg c, if_neg c]
theorem misfY {P1 P2 P3 P4 P5 P6 m c : Nat} (h1 : P1 ≤ 9999) (h2 : P2 ≤ 9999) (h3 : P3 ≤ 9999) (h4 : P4 ≤ 9999) (h5 : P5 ≤ 9999) (hm : m < 6) (hc : c < 6) {v1 : Nat → Int32} {f1 : Nat → Nat → Int32} {w1 : Int64} {g : Nat → Int64} (e1 : f1 16 m = nI P1) (e2 : f1 24 m = nI P2) (e3 : f1 24 (12 + c) = nI P3) (e4 : f1 24 (18 + c) = nI P4) (e5 : f1 24 (30 + c) = nI P5) (e6 : f1 24 37 = nI P6) : ∃ G : Nat → Int32, (G 0 = nI (P2 - P4) ∧ G 1 = nI (P4 - P2) ∧ G 2 = nI (P1 - P3) ∧ G 3 = nI (P3 - P1) ∧ G 4 = nI P5 ∧ G 5 = nI P6) ∧ gsY_X11_misfitOf_1 NF (nI m) (nI c) v1 f1 w1 g = (if v1 16 = 0 then (df9 (dfI P1 P2 P3 P4 P5), v1, upd2 f1 8 G, w1, g) else gsY_X11_misfitOf_1_L30 NF v1 (4294967296 + NF) 0 0 v1 (upd2 f1 8 G) w1 g) := by
  generalize hG : upd (upd (upd (upd (upd (upd (f1 8) 0 (nI (P2 - P4))) 1 (nI (P4 - P2))) 2 (nI (P1 - P3))) 3 (nI (P3 - P1))) 4 (nI P5)) 5 (nI P6) = G
  have g0 : G 0 = nI (P2 - P4) := by rw [← hG]; rfl
  have g1 : G 1 = nI (P4 - P2) := by rw [← hG]; rfl
  have g2 : G 2 = nI (P1 - P3) := by rw [← hG]; rfl
  have g3 : G 3 = nI (P3 - P1) := by rw [← hG]; rfl
  have g4 : G 4 = nI P5 := by rw [← hG]; rfl
  have g5 : G 5 = nI P6 := by rw [← hG]; rfl
  refine ⟨G, ⟨g0, g1, g2, g3, g4, g5⟩, ?_⟩
  have a1 : (18 : Int32) + nI c = nI (18 + c) := nI_add 18 c
  have a2 : (12 : Int32) + nI c = nI (12 + c) := nI_add 12 c
  have a3 : (30 : Int32) + nI c = nI (30 + c) := nI_add 30 c
  have k0 : (nI m).toNatClampNeg = m := nI_clamp (by omega)
  have k1 : (nI (18 + c)).toNatClampNeg = 18 + c := nI_clamp (by omega)
  have k2 : (nI (12 + c)).toNatClampNeg = 12 + c := nI_clamp (by omega)
  have k3 : (nI (30 + c)).toNatClampNeg = 30 + c := nI_clamp (by omega)
  have q24 : ∀ A : Nat → Int32, upd2 f1 8 A 24 = f1 24 := fun _ => rfl
  have q16 : ∀ A : Nat → Int32, upd2 f1 8 A 16 = f1 16 := fun _ => rfl
  simp only [gsY_X11_misfitOf_1, cN0, cN1, cN2, cN3, cN4, cN5, cN37, a1, a2, a3, k0, k1, k2, k3, upd2_2, u2s, q24, q16, e1, e2, e3, e4, e5, e6, ovY (show P2 < 2 ^ 31 by omega) (show P4 < 2 ^ 31 by omega), ovY (show P4 < 2 ^ 31 by omega) (show P2 < 2 ^ 31 by omega), ovY (show P1 < 2 ^ 31 by omega) (show P3 < 2 ^ 31 by omega), ovY (show P3 < 2 ^ 31 by omega) (show P1 < 2 ^ 31 by omega), hG, g0, g1, g2, g3, g4]
  have z3 : (3 : Int32) * nI (P2 - P4) = nI (3 * (P2 - P4)) := nI_mulI 3 _
  have z2 : (2 : Int32) * nI (P1 - P3) = nI (2 * (P1 - P3)) := nI_mulI 2 _
  rw [z3, z2, nI_add, nI_add, nI_add, nI_add]
  by_cases cc : v1 16 = 0
  · rw [if_pos cc, if_pos cc]
    have es : 3 * (P2 - P4) + (P4 - P2) + 2 * (P1 - P3) + (P3 - P1) + P5 = dfI P1 P2 P3 P4 P5 := by unfold dfI; omega
    rw [es]
    have q : gsY_X11_within_1 NF (nI (dfI P1 P2 P3 P4 P5)) 999 v1 (upd2 f1 8 G) w1 g = df9 (dfI P1 P2 P3 P4 P5) := by
      have hs : dfI P1 P2 P3 P4 P5 < 100000 := by unfold dfI; omega
      generalize dfI P1 P2 P3 P4 P5 = s at hs
      simp only [gsY_X11_within_1]
      unfold df9
      rw [if_pos (nI_pos' (by omega))]
      by_cases d : s < 999
      · rw [if_pos d, if_pos (show nI s ≤ (999 : Int32) from nI_le (b := 999) (by omega) (by decide))]
      · rw [if_neg d]
        by_cases d2 : s = 999
        · rw [d2, if_pos (show nI 999 ≤ (999 : Int32) from nI_le (b := 999) (Nat.le_refl _) (by decide))]; rfl
        · rw [if_neg (show ¬ nI s ≤ (999 : Int32) from nI_ge (a := 999) (by omega) (by omega))]
    rw [q]
  · rw [if_neg cc, if_neg cc]
theorem evPair {v v1 : Nat → Int32} {f f1 : Nat → Nat → Int32} {w1 : Int64} {g : Nat → Int64} {D : Int32} {G G1 : Nat → Int32} (hS : STF v f v1 f1) (hA : agr 6 G G1) (hD : 0 ≤ D ∧ D ≤ 999) : ∃ (r : Int32) (F F1 : Nat → Nat → Int32), (if v 18 = 0 then (D, v, upd2 f 14 G) else gsX_X4_worth_1_L16 NF (4294967296 + NF) 0 0 v (upd2 f 14 G)) = (r, v, F) ∧ (if v1 16 = 0 then (D, v1, upd2 f1 8 G1, w1, g) else gsY_X11_misfitOf_1_L30 NF v1 (4294967296 + NF) 0 0 v1 (upd2 f1 8 G1) w1 g) = (r, v1, F1, w1, g) ∧ (∀ q, q ≠ 13 → q ≠ 14 → F q = f q) ∧ (∀ q, q ≠ 7 → q ≠ 8 → F1 q = f1 q) ∧ (0 ≤ r ∧ r ≤ 999) := by
  rcases hS with ⟨e1, e2⟩ | ⟨e1, out, own, e2, e3, e4, e5, ⟨e6, e7, e8⟩, e9⟩
  · rw [if_pos e1, if_pos e2]
    exact ⟨D, _, _, rfl, rfl, fun q _ h => u2n h, fun q _ h => u2n h, hD⟩
  · have hp : 0 < out.length := by
      rcases out with _ | ⟨x, l⟩
      · simp [wfS] at e6
      · simp
    rw [if_neg (show ¬ v 18 = 0 by rw [e2]; exact nI_ne0 hp (by omega)), if_neg (show ¬ v1 16 = 0 by rw [e1]; decide)]
    obtain ⟨r, F, F1, a1, a2, a3, a4, a5⟩ := evLoop (NF := NF) (w1 := w1) (g := g) (f0 := upd2 f 14 G) (f10 := upd2 f1 8 G1) e2 e3 e4 e8 e9 hA out.length 0 0 (4294967296 + NF) (4294967296 + NF) (upd2 f 14 G) (upd2 f1 8 G1) (by omega) (by omega) (by omega) e6 (by rw [List.drop_zero]; omega) (fun _ _ => rfl) (fun _ _ => rfl) (fun k hk => absurd hk (Nat.not_lt_zero _))
    exact ⟨r, F, F1, a1, a2, fun q h1 h2 => (a3 q h1).trans (u2n h2), fun q h1 h2 => (a4 q h1).trans (u2n h2), a5⟩
end
