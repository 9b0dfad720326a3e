section
section
variable {NF : Nat}
def agr (d : Nat) (s s1 : Nat → Int32) : Prop := ∀ k, k < d → s k = s1 k
theorem agr.push {d : Nat} {s s1 : Nat → Int32} {x y : Int32} (h : agr d s s1) (e : x = y) : agr (d + 1) (upd s d x) (upd s1 d y) := fun k hk => by
  by_cases c : k = d
  · rw [c, pk_us, pk_us]; exact e
  · rw [pk_un c, pk_un c]; exact h k (by omega)
theorem agr.set {d j : Nat} {s s1 : Nat → Int32} {x y : Int32} (h : agr d s s1) (e : x = y) : agr d (upd s j x) (upd s1 j y) := fun k hk => by
  by_cases c : k = j
  · rw [c, pk_us, pk_us]; exact e
  · rw [pk_un c, pk_un c]; exact h k hk
theorem agr.less {d e : Nat} {s s1 : Nat → Int32} (h : agr d s s1) (he : e ≤ d) : agr e s s1 := fun k hk => h k (by omega)
theorem joinP {K : Nat} (h : fSg K = true) (a b : Int32) (v : Nat → Int32) (f : Nat → Nat → Int32) (v1 : Nat → Int32) (f1 : Nat → Nat → Int32) (w1 : Int64) (g : Nat → Int64) : gsX_X4_joined_1 NF (nI K) a b v f = gsY_X11_done_1 NF (nI (eS K)) a b v1 f1 w1 g := by
  simp only [fSg, List.contains_eq_mem, decide_eq_true_eq, List.mem_cons, List.mem_nil_iff, or_false] at h
  rcases h with h | h | h | h | h | h | h | h | h | h <;> (subst h; rfl)
theorem sg_lt {K : Nat} (h : fSg K = true) : K < 115 ∧ K ≠ 2 ∧ eA K = 3 ∧ ∀ x, eB K x = nI (eS K) := by
  simp only [fSg, List.contains_eq_mem, decide_eq_true_eq, List.mem_cons, List.mem_nil_iff, or_false] at h
  rcases h with h | h | h | h | h | h | h | h | h | h <;> (subst h; exact ⟨by decide, by decide, rfl, fun _ => rfl⟩)
def cl9 (x : Int32) : Int32 := if 0 ≤ x then (if x ≤ 999 then x else 999) else 0
theorem cl9X (x : Int32) : (if (0 : Int32) < (if x < (999 : Int32) then x else (999 : Int32)) then (if x < (999 : Int32) then x else (999 : Int32)) else (0 : Int32)) = cl9 x := by
  have z0 : (0 : Int32).toInt = 0 := by decide
  have z9 : (999 : Int32).toInt = 999 := by decide
  unfold cl9
  by_cases c : x < 999
  · have c' := (fa_lt _ _).mp c
    rw [if_pos c]
    by_cases d : 0 < x
    · have d' := (fa_lt _ _).mp d
      rw [if_pos d, if_pos ((fa_le _ _).mpr (by omega)), if_pos ((fa_le _ _).mpr (by omega))]
    · have d' : ¬ (0 : Int32).toInt < x.toInt := fun z => d ((fa_lt _ _).mpr z)
      rw [if_neg d]
      by_cases e : 0 ≤ x
      · have e' := (fa_le _ _).mp e
        have e0 : x = 0 := Int32.toInt_inj.mp (by omega)
        rw [if_pos e, e0]
        exact (if_pos (by decide)).symm
      · rw [if_neg e]
  · have c' : ¬ x.toInt < (999 : Int32).toInt := fun z => c ((fa_lt _ _).mpr z)
    rw [if_neg c, if_pos (by decide), if_pos ((fa_le _ _).mpr (by omega))]
    by_cases e : x ≤ 999
    · have e' := (fa_le _ _).mp e
      have e0 : x = 999 := Int32.toInt_inj.mp (by omega)
      rw [if_pos e, e0]
    · rw [if_neg e]
theorem cl9_rng (x : Int32) : 0 ≤ cl9 x ∧ cl9 x ≤ 999 := by
  unfold cl9
  by_cases c : 0 ≤ x
  · rw [if_pos c]
    by_cases d : x ≤ 999
    · rw [if_pos d]; exact ⟨c, d⟩
    · rw [if_neg d]; exact ⟨by decide, by decide⟩
  · rw [if_neg c]; exact ⟨by decide, by decide⟩
section
variable {v v1 : Nat → Int32} {f0 f10 : Nat → Nat → Int32} {w1 : Int64} {g : Nat → Int64} {out : List (Nat × Int32)}
theorem evLoop (hv : v 18 = nI out.length) (hv1 : v1 9 = nI out.length) (hl : out.length ≤ 270) (hk : ∀ x ∈ out, okK x.1) (hO : ∀ j, j < out.length → f0 11 j = nI (out.getD j (0, 0)).1 ∧ ((out.getD j (0, 0)).1 = 2 → f0 12 j = (out.getD j (0, 0)).2) ∧ f10 4 j = nI (eA (out.getD j (0, 0)).1) ∧ f10 5 j = eB (out.getD j (0, 0)).1 (out.getD j (0, 0)).2) (hA : agr 6 (f0 14) (f10 8)) :
    ∀ (n i d fu fu1 : Nat) (f f1 : Nat → Nat → Int32), i + n = out.length → n < fu → n < fu1 → wfS (out.drop i) d = some 1 → d + wfN (out.drop i) ≤ 30 → (∀ q, q ≠ 13 → f q = f0 q) → (∀ q, q ≠ 7 → f1 q = f10 q) → agr d (f 13) (f1 7) →
      ∃ (r : Int32) (F F1 : Nat → Nat → Int32), gsX_X4_worth_1_L16 NF fu (nI d) (nI i) v f = (r, v, F) ∧ gsY_X11_misfitOf_1_L30 NF v1 fu1 (nI d) (nI i) v1 f1 w1 g = (r, v1, F1, w1, g) ∧ (∀ q, q ≠ 13 → F q = f0 q) ∧ (∀ q, q ≠ 7 → F1 q = f10 q) ∧ (0 ≤ r ∧ r ≤ 999) := by
  intro n
  induction n with
  | zero =>
    intro i d fu fu1 f f1 hi hfu hfu1 hw hd hF hF1 ha
    obtain ⟨fu, rfl⟩ : ∃ z, fu = z + 1 := ⟨fu - 1, by omega⟩
    obtain ⟨fu1, rfl⟩ : ∃ z, fu1 = z + 1 := ⟨fu1 - 1, by omega⟩
    have ei : i = out.length := by omega
    rw [ei, List.drop_length] at hw
    have hd1 : d = 1 := by simpa [wfS] using hw
    have le : nI out.length ≤ nI i := nI_le (by omega) (by omega)
    have e0 : f1 7 0 = f 13 0 := (ha 0 (by omega)).symm
    refine ⟨cl9 (f 13 0), f, f1, ?_, ?_, hF, hF1, cl9_rng _⟩
    · simp only [gsX_X4_worth_1_L16, hv]
      rw [if_pos le]
      have q := cl9X (f 13 0)
      have q0 : (0 : Int32).toNatClampNeg = 0 := by decide
      rw [q0, q]
    · simp only [gsY_X11_misfitOf_1_L30, hv1, gsY_X11_within_1]
      rw [if_pos le]
      have q0 : (0 : Int32).toNatClampNeg = 0 := by decide
      rw [q0, e0]
      rfl
  | succ n ih =>
    intro i d fu fu1 f f1 hi hfu hfu1 hw hd hF hF1 ha
    obtain ⟨fu, rfl⟩ : ∃ z, fu = z + 1 := ⟨fu - 1, by omega⟩
    obtain ⟨fu1, rfl⟩ : ∃ z, fu1 = z + 1 := ⟨fu1 - 1, by omega⟩
    have hil : i < out.length := by omega
    have nle : ¬ nI out.length ≤ nI i := nI_ge hil (by omega)
    have n300 : ¬ (300 : Int32) ≤ nI i := lit_nle (b := 300) rfl (by omega) (by decide)
    obtain ⟨o1, o2, o3, o4⟩ := hO i hil
    have ed : out.drop i = out[i] :: out.drop (i + 1) := List.drop_eq_getElem_cons hil
    have eg : out.getD i (0, 0) = out[i] := by simp [List.getD_eq_getElem?_getD, hil]
    rw [eg] at o1 o2 o3 o4
    have ok : okK out[i].1 := hk _ (List.getElem_mem hil)
    rw [ed] at hw hd
    rw [← hF 11 (by decide)] at o1
    rw [← hF 12 (by decide)] at o2
    rw [← hF1 4 (by decide)] at o3
    rw [← hF1 5 (by decide)] at o4
    generalize out[i] = x at *
    obtain ⟨K, y⟩ := x
    have o1 : f 11 i = nI K := o1
    have o2 : K = 2 → f 12 i = y := o2
    have o3 : f1 4 i = nI (eA K) := o3
    have o4 : f1 5 i = eB K y := o4
    have hw : (if wfP K = true then wfS (out.drop (i + 1)) (d + 1) else if K = 115 then (if 1 ≤ d then wfS (out.drop (i + 1)) d else none) else (if 2 ≤ d then wfS (out.drop (i + 1)) (d - 1) else none)) = some 1 := hw
    have hd : d + ((if wfP K = true then 1 else 0) + wfN (out.drop (i + 1))) ≤ 30 := hd
    have ci : (nI i).toNatClampNeg = i := nI_clamp (by omega)
    have cd : (nI d).toNatClampNeg = d := nI_clamp (by omega)
    rcases ok with hp | rfl | hs
    · have hp : wfP K = true := hp
      rw [if_pos hp] at hw hd
      have d30 : ¬ (30 : Int32) ≤ nI d := lit_nle (b := 30) rfl (by omega) (by decide)
      have hp' : K = 2 ∨ (116 ≤ K ∧ K ≤ 121) := by
        simp only [wfP, Bool.or_eq_true, beq_iff_eq, Bool.and_eq_true, decide_eq_true_eq] at hp
        exact hp
      have hK : K < 2 ^ 31 := by omega
      by_cases c2 : K = 2
      · subst c2
        obtain ⟨r, F, F1, a1, a2, a3, a4, a5⟩ := ih (i + 1) (d + 1) fu fu1 (upd2 f 13 (upd (f 13) d (f 12 i))) (upd2 f1 7 (upd (f1 7) d (f1 5 i))) (by omega) (by omega) (by omega) hw (by omega) (fun q hq => (u2n hq).trans (hF q hq)) (fun q hq => (u2n hq).trans (hF1 q hq)) (ha.push (by rw [o2 rfl, o4]; rfl))
        refine ⟨r, F, F1, ?_, ?_, a3, a4, a5⟩
        · rw [← a1]
          simp only [gsX_X4_worth_1_L16, hv, ci, o1, cd, nI_1]
          rw [if_neg nle, if_neg n300, if_pos (show nI 2 = (2 : Int32) from rfl), if_neg d30, if_pos (show nI 2 = (2 : Int32) from rfl)]
        · rw [← a2]
          simp only [gsY_X11_misfitOf_1_L30, hv1, ci, o3, cd, nI_1]
          rw [if_neg nle, if_pos (show nI (eA 2) = (0 : Int32) from rfl), if_pos (show nI (eA 2) = (0 : Int32) from rfl)]
      · obtain ⟨k1, k2⟩ := hp'.resolve_left c2
        have eA1 : eA K = 1 := by unfold eA; rw [if_neg c2, if_pos ⟨k1, k2⟩]
        have eB1 : eB K y = nI (K - 116) := by unfold eB; rw [if_neg c2, if_pos ⟨k1, k2⟩]
        have x2 : ¬ nI K = (2 : Int32) := nlit 2 2 rfl hK (by decide) c2
        have x116 : ¬ nI K < (116 : Int32) := nI_nlt (b := 116) k1 hK
        have x122 : ¬ (122 : Int32) ≤ nI K := lit_nle (b := 122) rfl (by omega) (by decide)
        have e116 : nI K - 116 = nI (K - 116) := nI_subI (b := 116) k1
        have c116 : (nI (K - 116)).toNatClampNeg = K - 116 := nI_clamp (by omega)
        rw [eA1] at o3
        rw [eB1] at o4
        obtain ⟨r, F, F1, a1, a2, a3, a4, a5⟩ := ih (i + 1) (d + 1) fu fu1 (upd2 f 13 (upd (f 13) d (f 14 (K - 116)))) (upd2 f1 7 (upd (f1 7) d (f1 8 (K - 116)))) (by omega) (by omega) (by omega) hw (by omega) (fun q hq => (u2n hq).trans (hF q hq)) (fun q hq => (u2n hq).trans (hF1 q hq)) (ha.push (by rw [hF 14 (by decide), hF1 8 (by decide)]; exact hA _ (by omega)))
        refine ⟨r, F, F1, ?_, ?_, a3, a4, a5⟩
        · rw [← a1]
          simp only [gsX_X4_worth_1_L16, hv, ci, o1, cd, nI_1, e116, c116]
          rw [if_neg nle, if_neg n300, if_neg x2, if_neg x116, if_neg x122, if_neg d30, if_neg x2]
        · rw [← a2]
          simp only [gsY_X11_misfitOf_1_L30, hv1, ci, o3, o4, cd, nI_1, c116]
          rw [if_neg nle, if_neg (show ¬ nI 1 = (0 : Int32) by decide), if_pos (show nI 1 = (1 : Int32) from rfl), if_neg (show ¬ nI 1 = (0 : Int32) by decide)]
    · rw [if_neg (show ¬ wfP 115 = true by decide)] at hw hd
      rw [if_pos rfl] at hw
      by_cases cd1 : 1 ≤ d
      · rw [if_pos cd1] at hw
        have x1 : ¬ nI d < (1 : Int32) := nI_nlt (b := 1) cd1 (by omega)
        have e1 : nI d - 1 = nI (d - 1) := nI_subI (b := 1) cd1
        have c1 : (nI (d - 1)).toNatClampNeg = d - 1 := nI_clamp (by omega)
        have es : f 13 (d - 1) = f1 7 (d - 1) := ha _ (by omega)
        have t1 : gsY_X11_truth_1 NF 1 v1 f1 w1 g = 1 := rfl
        have t0 : gsY_X11_truth_1 NF 0 v1 f1 w1 g = 0 := rfl
        have o3 : f1 4 i = nI 2 := o3
        obtain ⟨r, F, F1, a1, a2, a3, a4, a5⟩ := ih (i + 1) d fu fu1 (upd2 f 13 (upd (f 13) (d - 1) (if f1 7 (d - 1) = 0 then 1 else 0))) (upd2 f1 7 (upd (f1 7) (d - 1) (if f1 7 (d - 1) = 0 then 1 else 0))) (by omega) (by omega) (by omega) hw (by omega) (fun q hq => (u2n hq).trans (hF q hq)) (fun q hq => (u2n hq).trans (hF1 q hq)) (ha.set rfl)
        refine ⟨r, F, F1, ?_, ?_, a3, a4, a5⟩
        · rw [← a1]
          simp only [gsX_X4_worth_1_L16, hv, ci, o1, nI_1, e1, c1, es]
          rw [if_neg nle, if_neg n300, if_neg (show ¬ nI 115 = (2 : Int32) by decide), if_pos (show nI 115 < (116 : Int32) by decide), if_pos (show nI 115 = (115 : Int32) from rfl), if_neg x1]
          by_cases z : f1 7 (d - 1) = 0
          · rw [if_pos z, if_pos z]
          · rw [if_neg z, if_neg z]
        · rw [← a2]
          simp only [gsY_X11_misfitOf_1_L30, hv1, ci, o3, nI_1, e1, c1, t1, t0]
          rw [if_neg nle, if_neg (show ¬ nI 2 = (0 : Int32) by decide), if_neg (show ¬ nI 2 = (1 : Int32) by decide), if_pos (show nI 2 = (2 : Int32) from rfl)]
          by_cases z : f1 7 (d - 1) = 0
          · rw [if_pos z, if_pos z]
          · rw [if_neg z, if_neg z]
      · rw [if_neg cd1] at hw; cases hw
    · have hs : fSg K = true := hs
      obtain ⟨g1, g2, g3⟩ := wf_sg' hs
      obtain ⟨s1, s2, s3, s4⟩ := sg_lt hs
      rw [if_neg (show ¬ wfP K = true by rw [g1]; decide)] at hw hd
      rw [if_neg g3] at hw
      by_cases cd2 : 2 ≤ d
      · rw [if_pos cd2] at hw
        have hK : K < 2 ^ 31 := by omega
        have x2 : ¬ nI d < (2 : Int32) := nI_nlt (b := 2) cd2 (by omega)
        have e1 : nI d - 1 = nI (d - 1) := nI_subI (b := 1) (by omega)
        have e2 : nI d - 2 = nI (d - 2) := nI_subI (b := 2) cd2
        have em : nI d + (-1) = nI (d - 1) := by rw [← e1]; exact (Int32.sub_eq_add_neg _ _).symm
        have e3 : nI (d - 1) - 1 = nI (d - 2) := nI_subI (b := 1) (by omega)
        have c1 : (nI (d - 1)).toNatClampNeg = d - 1 := nI_clamp (by omega)
        have c2 : (nI (d - 2)).toNatClampNeg = d - 2 := nI_clamp (by omega)
        have k2 : ¬ nI K = (2 : Int32) := nlit 2 2 rfl hK (by decide) s2
        have k116 : nI K < (116 : Int32) := nI_lt (b := 116) (by omega) (by decide)
        have k115 : ¬ nI K = (115 : Int32) := nlit 115 115 rfl hK (by decide) g3
        rw [s3] at o3
        rw [s4] at o4
        have ea : f 13 (d - 2) = f1 7 (d - 2) := ha _ (by omega)
        have eb : f 13 (d - 1) = f1 7 (d - 1) := ha _ (by omega)
        obtain ⟨r, F, F1, a1, a2, a3, a4, a5⟩ := ih (i + 1) (d - 1) fu fu1 (upd2 f 13 (upd (f 13) (d - 2) (gsX_X4_joined_1 NF (nI K) (f1 7 (d - 2)) (f1 7 (d - 1)) v f))) (upd2 f1 7 (upd (f1 7) (d - 2) (gsX_X4_joined_1 NF (nI K) (f1 7 (d - 2)) (f1 7 (d - 1)) v f))) (by omega) (by omega) (by omega) hw (by omega) (fun q hq => (u2n hq).trans (hF q hq)) (fun q hq => (u2n hq).trans (hF1 q hq)) ((ha.less (by omega)).set rfl)
        refine ⟨r, F, F1, ?_, ?_, a3, a4, a5⟩
        · rw [← a1]
          simp only [gsX_X4_worth_1_L16, hv, ci, o1, nI_1, e1, e2, em, c1, c2, ea, eb]
          rw [if_neg nle, if_neg n300, if_neg k2, if_pos k116, if_neg k115, if_neg x2]
        · rw [← a2, joinP hs _ _ v f v1 f1 w1 g]
          simp only [gsY_X11_misfitOf_1_L30, hv1, ci, o3, o4, nI_1, em, e3, c1, c2]
          rw [if_neg nle, if_neg (show ¬ nI 3 = (0 : Int32) by decide), if_neg (show ¬ nI 3 = (1 : Int32) by decide), if_neg (show ¬ nI 3 = (2 : Int32) by decide)]
      · rw [if_neg cd2] at hw; cases hw
end
theorem ovX {P Q : Nat} (hP : P < 2 ^ 31) (hQ : Q < 2 ^ 31) : (if (0 : Int32) < nI P - nI Q then nI P - nI Q else (0 : Int32)) = nI (P - Q) := by
  by_cases c : Q < P
  · rw [nI_subI (by omega), if_pos (show (0 : Int32) < nI (P - Q) from nI_lt (a := 0) (by omega) (by omega))]
  · have e : P - Q = 0 := by omega
    rw [e]
    by_cases d : P = Q
    · rw [d, nI_subI (Nat.le_refl _), Nat.sub_self]
      exact if_neg (by decide)
    · refine if_neg (fun z => ?_)
      have z' := (fa_lt _ _).mp z
      have z0 : (0 : Int32).toInt = 0 := by decide
      rw [z0, Int32.toInt_sub, nI_toInt hP, nI_toInt hQ, bmod_in (by omega) (by omega)] at z'
      omega
theorem ovY {P Q : Nat} (hP : P < 2 ^ 31) (hQ : Q < 2 ^ 31) {v1 : Nat → Int32} {f1 : Nat → Nat → Int32} {w1 : Int64} {g : Nat → Int64} : gsY_X11_over_1 NF (nI P) (nI Q) v1 f1 w1 g = nI (P - Q) := by
  simp only [gsY_X11_over_1]
  by_cases c : P ≤ Q
  · rw [if_pos (nI_le c hQ), show P - Q = 0 by omega]; rfl
  · rw [if_neg (nI_ge (by omega) hP), nI_subI (by omega)]
def dfI (P1 P2 P3 P4 P5 : Nat) : Nat := (P2 - P4) * 3 + (P4 - P2) + (P1 - P3) * 2 + (P3 - P1) + P5
def df9 (n : Nat) : Int32 := if n < 999 then nI n else 999
theorem df9_rng (n : Nat) (hn : n < 2 ^ 31) : 0 ≤ df9 n ∧ df9 n ≤ 999 := by
  unfold df9
  by_cases c : n < 999
  · rw [if_pos c]; exact ⟨nI_pos' hn, nI_le (b := 999) (by omega) (by decide)⟩
  · rw [if_neg c]; exact ⟨by decide, by decide⟩
theorem cN0 : (0 : Int32).toNatClampNeg = 0 := by decide
theorem cN1 : (1 : Int32).toNatClampNeg = 1 := by decide
theorem cN2 : (2 : Int32).toNatClampNeg = 2 := by decide
theorem cN3 : (3 : Int32).toNatClampNeg = 3 := by decide
theorem cN4 : (4 : Int32).toNatClampNeg = 4 := by decide
theorem cN5 : (5 : Int32).toNatClampNeg = 5 := by decide
theorem cN37 : (37 : Int32).toNatClampNeg = 37 := by decide
theorem cN42 : (42 : Int32).toNatClampNeg = 42 := by decide
theorem cN43 : (43 : Int32).toNatClampNeg = 43 := by decide
theorem cN38 : (38 : Int32).toNatClampNeg = 38 := by decide
theorem cN36 : (36 : Int32).toNatClampNeg = 36 := by decide
theorem worthX {P1 P2 P3 P4 P5 P6 : Nat} (h1 : P1 ≤ 9999) (h2 : P2 ≤ 9999) (h3 : P3 ≤ 9999) (h4 : P4 ≤ 9999) (h5 : P5 ≤ 9999) {v : Nat → Int32} {f : Nat → Nat → Int32} : ∃ G : Nat → Int32, (G 0 = nI (P2 - P4) ∧ G 1 = nI (P4 - P2) ∧ G 2 = nI (P1 - P3) ∧ G 3 = nI (P3 - P1) ∧ G 4 = nI P5 ∧ G 5 = nI P6) ∧ gsX_X4_worth_1 NF (nI P1) (nI P2) (nI P3) (nI P4) (nI P5) (nI P6) v f = (if v 18 = 0 then (df9 (dfI P1 P2 P3 P4 P5), v, upd2 f 14 G) else gsX_X4_worth_1_L16 NF (4294967296 + NF) 0 0 v (upd2 f 14 G)) := by
  generalize hG : upd (upd (upd (upd (upd (upd (f 14) 0 (nI (P2 - P4))) 1 (nI (P4 - P2))) 2 (nI (P1 - P3))) 3 (nI (P3 - P1))) 4 (nI P5)) 5 (nI P6) = G
  have g0 : G 0 = nI (P2 - P4) := by rw [← hG]; rfl
  have g1 : G 1 = nI (P4 - P2) := by rw [← hG]; rfl
  have g2 : G 2 = nI (P1 - P3) := by rw [← hG]; rfl
  have g3 : G 3 = nI (P3 - P1) := by rw [← hG]; rfl
  have g4 : G 4 = nI P5 := by rw [← hG]; rfl
  have g5 : G 5 = nI P6 := by rw [← hG]; rfl
  refine ⟨G, ⟨g0, g1, g2, g3, g4, g5⟩, ?_⟩
  simp only [gsX_X4_worth_1, cN0, cN1, cN2, cN3, cN4, cN5, ovX (show P2 < 2 ^ 31 by omega) (show P4 < 2 ^ 31 by omega), ovX (show P4 < 2 ^ 31 by omega) (show P2 < 2 ^ 31 by omega), ovX (show P1 < 2 ^ 31 by omega) (show P3 < 2 ^ 31 by omega), ovX (show P3 < 2 ^ 31 by omega) (show P1 < 2 ^ 31 by omega), upd2_2, u2s, hG, g0, g1, g2, g3]
  have e3 : nI (P2 - P4) * 3 = nI ((P2 - P4) * 3) := nI_mulI _ 3
  have e2 : nI (P1 - P3) * 2 = nI ((P1 - P3) * 2) := nI_mulI _ 2
  rw [e3, e2, nI_add, nI_add, nI_add, nI_add]
  by_cases c : v 18 = 0
  · rw [if_pos c, if_pos c]
    have q : (if nI ((P2 - P4) * 3 + (P4 - P2) + (P1 - P3) * 2 + (P3 - P1) + P5) < (999 : Int32) then nI ((P2 - P4) * 3 + (P4 - P2) + (P1 - P3) * 2 + (P3 - P1) + P5) else (999 : Int32)) = df9 (dfI P1 P2 P3 P4 P5) := by
      unfold df9 dfI
      by_cases d : (P2 - P4) * 3 + (P4 - P2) + (P1 - P3) * 2 + (P3 - P1) + P5 < 999
      · rw [if_pos d, if_pos (show nI _ < (999 : Int32) from nI_lt (b := 999) d (by decide))]
      · rw [if_neg d, if_neg (show ¬ nI _ < (999 : Int32) from nI_nlt (b := 999) (by omega) (by omega))]
    rw [q]
  · rw [if_neg c, if_neg c]
theorem misfY {P1 P2 P3 P4 P5 P6 m c : Nat} (h1 : P1 ≤ 9999) (h2 : P2 ≤ 9999) (h3 : P3 ≤ 9999) (h4 : P4 ≤ 9999) (h5 : P5 ≤ 9999) (hm : m < 6) (hc : c < 6) {v1 : Nat → Int32} {f1 : Nat → Nat → Int32} {w1 : Int64} {g : Nat → Int64} (e1 : f1 16 m = nI P1) (e2 : f1 24 m = nI P2) (e3 : f1 24 (12 + c) = nI P3) (e4 : f1 24 (18 + c) = nI P4) (e5 : f1 24 (30 + c) = nI P5) (e6 : f1 24 37 = nI P6) : ∃ G : Nat → Int32, (G 0 = nI (P2 - P4) ∧ G 1 = nI (P4 - P2) ∧ G 2 = nI (P1 - P3) ∧ G 3 = nI (P3 - P1) ∧ G 4 = nI P5 ∧ G 5 = nI P6) ∧ gsY_X11_misfitOf_1 NF (nI m) (nI c) v1 f1 w1 g = (if v1 16 = 0 then (df9 (dfI P1 P2 P3 P4 P5), v1, upd2 f1 8 G, w1, g) else gsY_X11_misfitOf_1_L30 NF v1 (4294967296 + NF) 0 0 v1 (upd2 f1 8 G) w1 g) := by
  generalize hG : upd (upd (upd (upd (upd (upd (f1 8) 0 (nI (P2 - P4))) 1 (nI (P4 - P2))) 2 (nI (P1 - P3))) 3 (nI (P3 - P1))) 4 (nI P5)) 5 (nI P6) = G
  have g0 : G 0 = nI (P2 - P4) := by rw [← hG]; rfl
  have g1 : G 1 = nI (P4 - P2) := by rw [← hG]; rfl
  have g2 : G 2 = nI (P1 - P3) := by rw [← hG]; rfl
  have g3 : G 3 = nI (P3 - P1) := by rw [← hG]; rfl
  have g4 : G 4 = nI P5 := by rw [← hG]; rfl
  have g5 : G 5 = nI P6 := by rw [← hG]; rfl
  refine ⟨G, ⟨g0, g1, g2, g3, g4, g5⟩, ?_⟩
  have a1 : (18 : Int32) + nI c = nI (18 + c) := nI_add 18 c
  have a2 : (12 : Int32) + nI c = nI (12 + c) := nI_add 12 c
  have a3 : (30 : Int32) + nI c = nI (30 + c) := nI_add 30 c
  have k0 : (nI m).toNatClampNeg = m := nI_clamp (by omega)
  have k1 : (nI (18 + c)).toNatClampNeg = 18 + c := nI_clamp (by omega)
  have k2 : (nI (12 + c)).toNatClampNeg = 12 + c := nI_clamp (by omega)
  have k3 : (nI (30 + c)).toNatClampNeg = 30 + c := nI_clamp (by omega)
  have q24 : ∀ A : Nat → Int32, upd2 f1 8 A 24 = f1 24 := fun _ => rfl
  have q16 : ∀ A : Nat → Int32, upd2 f1 8 A 16 = f1 16 := fun _ => rfl
  simp only [gsY_X11_misfitOf_1, cN0, cN1, cN2, cN3, cN4, cN5, cN37, a1, a2, a3, k0, k1, k2, k3, upd2_2, u2s, q24, q16, e1, e2, e3, e4, e5, e6, ovY (show P2 < 2 ^ 31 by omega) (show P4 < 2 ^ 31 by omega), ovY (show P4 < 2 ^ 31 by omega) (show P2 < 2 ^ 31 by omega), ovY (show P1 < 2 ^ 31 by omega) (show P3 < 2 ^ 31 by omega), ovY (show P3 < 2 ^ 31 by omega) (show P1 < 2 ^ 31 by omega), hG, g0, g1, g2, g3, g4]
  have z3 : (3 : Int32) * nI (P2 - P4) = nI (3 * (P2 - P4)) := nI_mulI 3 _
  have z2 : (2 : Int32) * nI (P1 - P3) = nI (2 * (P1 - P3)) := nI_mulI 2 _
  rw [z3, z2, nI_add, nI_add, nI_add, nI_add]
  by_cases cc : v1 16 = 0
  · rw [if_pos cc, if_pos cc]
    have es : 3 * (P2 - P4) + (P4 - P2) + 2 * (P1 - P3) + (P3 - P1) + P5 = dfI P1 P2 P3 P4 P5 := by unfold dfI; omega
    rw [es]
    have q : gsY_X11_within_1 NF (nI (dfI P1 P2 P3 P4 P5)) 999 v1 (upd2 f1 8 G) w1 g = df9 (dfI P1 P2 P3 P4 P5) := by
      have hs : dfI P1 P2 P3 P4 P5 < 100000 := by unfold dfI; omega
      generalize dfI P1 P2 P3 P4 P5 = s at hs
      simp only [gsY_X11_within_1]
      unfold df9
      rw [if_pos (nI_pos' (by omega))]
      by_cases d : s < 999
      · rw [if_pos d, if_pos (show nI s ≤ (999 : Int32) from nI_le (b := 999) (by omega) (by decide))]
      · rw [if_neg d]
        by_cases d2 : s = 999
        · rw [d2, if_pos (show nI 999 ≤ (999 : Int32) from nI_le (b := 999) (Nat.le_refl _) (by decide))]; rfl
        · rw [if_neg (show ¬ nI s ≤ (999 : Int32) from nI_ge (a := 999) (by omega) (by omega))]
    rw [q]
  · rw [if_neg cc, if_neg cc]
theorem evPair {v v1 : Nat → Int32} {f f1 : Nat → Nat → Int32} {w1 : Int64} {g : Nat → Int64} {D : Int32} {G G1 : Nat → Int32} (hS : STF v f v1 f1) (hA : agr 6 G G1) (hD : 0 ≤ D ∧ D ≤ 999) : ∃ (r : Int32) (F F1 : Nat → Nat → Int32), (if v 18 = 0 then (D, v, upd2 f 14 G) else gsX_X4_worth_1_L16 NF (4294967296 + NF) 0 0 v (upd2 f 14 G)) = (r, v, F) ∧ (if v1 16 = 0 then (D, v1, upd2 f1 8 G1, w1, g) else gsY_X11_misfitOf_1_L30 NF v1 (4294967296 + NF) 0 0 v1 (upd2 f1 8 G1) w1 g) = (r, v1, F1, w1, g) ∧ (∀ q, q ≠ 13 → q ≠ 14 → F q = f q) ∧ (∀ q, q ≠ 7 → q ≠ 8 → F1 q = f1 q) ∧ (0 ≤ r ∧ r ≤ 999) := by
  rcases hS with ⟨e1, e2⟩ | ⟨e1, out, own, e2, e3, e4, e5, ⟨e6, e7, e8⟩, e9⟩
  · rw [if_pos e1, if_pos e2]
    exact ⟨D, _, _, rfl, rfl, fun q _ h => u2n h, fun q _ h => u2n h, hD⟩
  · have hp : 0 < out.length := by
      rcases out with _ | ⟨x, l⟩
      · simp [wfS] at e6
      · simp
    rw [if_neg (show ¬ v 18 = 0 by rw [e2]; exact nI_ne0 hp (by omega)), if_neg (show ¬ v1 16 = 0 by rw [e1]; decide)]
    obtain ⟨r, F, F1, a1, a2, a3, a4, a5⟩ := evLoop (NF := NF) (w1 := w1) (g := g) (f0 := upd2 f 14 G) (f10 := upd2 f1 8 G1) e2 e3 e4 e8 e9 hA out.length 0 0 (4294967296 + NF) (4294967296 + NF) (upd2 f 14 G) (upd2 f1 8 G1) (by omega) (by omega) (by omega) e6 (by rw [List.drop_zero]; omega) (fun _ _ => rfl) (fun _ _ => rfl) (fun k hk => absurd hk (Nat.not_lt_zero _))
    exact ⟨r, F, F1, a1, a2, fun q h1 h2 => (a3 q h1).trans (u2n h2), fun q h1 h2 => (a4 q h1).trans (u2n h2), a5⟩
end
end
section
section
variable {NF : Nat}
def NBx (n : Nat) (x : Int32) : Prop := ∃ j, j ≤ n ∧ x = nI j
theorem NBx.of {n : Nat} {M x : Int32} (hM : M = nI n) (hn : n < 2 ^ 31) (h : 0 ≤ x ∧ x ≤ M) : NBx n x := by
  have h0 := (fa_le _ _).mp h.1
  have z0 : (0 : Int32).toInt = 0 := by decide
  have hM' : M.toInt = n := by rw [hM, nI_toInt hn]
  exact nI_of2 hM' (fun z => by have z' := (fa_lt _ _).mp z; omega) h.2
def NWR (D a b : Nat) (x y : Nat → Int32) : Prop := (∀ m, m < a → x m = y m ∧ NBx 99 (x m) ∧ x (6 + m) = y (6 + m) ∧ (x (6 + m) = -1 ∨ ∃ c, c < b ∧ x (6 + m) = nI c)) ∧ (∀ c, c < b → (x (12 + c) = y (12 + c) ∧ NBx 99 (x (12 + c))) ∧ (x (18 + c) = y (18 + c) ∧ NBx 99 (x (18 + c))) ∧ (x (24 + c) = y (24 + c) ∧ NBx 99 (x (24 + c))) ∧ (x (30 + c) = y (30 + c) ∧ NBx 99 (x (30 + c)))) ∧ (∃ T, T < 64 ∧ y 36 = nI T ∧ ∀ c, c < b → x (36 + c) = nI (T / 2 ^ c % 2)) ∧ (x 42 = y 37 ∧ NBx D (x 42)) ∧ (x 43 = y 38 ∧ NBx 999 (x 43)) ∧ (∀ m m', m < a → m' < a → x (6 + m) = x (6 + m') → ¬ x (6 + m) = -1 → m = m')
theorem NWR.cg {D a b : Nat} {x y x' y' : Nat → Int32} (h : NWR D a b x y) (ha : a ≤ 6) (hb : b ≤ 6) (hx : ∀ k, k < 44 → x' k = x k) (hy : ∀ k, k < 39 → y' k = y k) : NWR D a b x' y' := by
  obtain ⟨h1, h2, ⟨T, t1, t2, t3⟩, h4, h5, h6⟩ := h
  refine ⟨fun m hm => ?_, fun c hc => ?_, ⟨T, t1, ?_, fun c hc => ?_⟩, ?_, ?_, fun m m' hm hm' => ?_⟩
  · rw [hx m (by omega), hx (6 + m) (by omega), hy m (by omega), hy (6 + m) (by omega)]; exact h1 m hm
  · rw [hx (12 + c) (by omega), hx (18 + c) (by omega), hx (24 + c) (by omega), hx (30 + c) (by omega), hy (12 + c) (by omega), hy (18 + c) (by omega), hy (24 + c) (by omega), hy (30 + c) (by omega)]; exact h2 c hc
  · rw [hy 36 (by decide)]; exact t2
  · rw [hx (36 + c) (by omega)]; exact t3 c hc
  · rw [hx 42 (by decide), hy 37 (by decide)]; exact h4
  · rw [hx 43 (by decide), hy 38 (by decide)]; exact h5
  · rw [hx (6 + m) (by omega), hx (6 + m') (by omega)]; exact h6 m m' hm hm'
theorem NWR.day {D D' a b : Nat} {x y : Nat → Int32} (h : NWR D a b x y) (hD : D ≤ D') : NWR D' a b x y := by
  obtain ⟨h1, h2, h3, ⟨h4, j, h7, h8⟩, h5, h6⟩ := h
  exact ⟨h1, h2, h3, ⟨h4, j, by omega, h8⟩, h5, h6⟩
section
variable {V : Nat → Int32} {F : Nat → Nat → Int32} {V1 : Nat → Int32} {F1 : Nat → Nat → Int32} {W : Int64} {G : Nat → Int64} {a b m c : Nat}
theorem xHasM1 (h : V 31 = nI a) (ha : a ≤ 6) (hm : m < a) : gsX_X7_hasMan_1 NF (nI m) V F = 1 := by
  simp only [gsX_X7_hasMan_1, h]
  rw [if_neg (show ¬ nI m < (0 : Int32) from nI_pos (by omega)), if_neg (show ¬ nI a ≤ nI m from nI_ge hm (by omega))]
theorem xHasC1 (h : V 32 = nI b) (hb : b ≤ 6) (hc : c < b) : gsX_X7_hasCoat_1 NF (nI c) V F = 1 := by
  simp only [gsX_X7_hasCoat_1, h]
  rw [if_neg (show ¬ nI c < (0 : Int32) from nI_pos (by omega)), if_neg (show ¬ nI b ≤ nI c from nI_ge hc (by omega))]
theorem xHasM0 {p : Int32} (h : V 31 = nI a) (hn : ¬ ∃ P, P < a ∧ p = nI P) : gsX_X7_hasMan_1 NF p V F = 0 := by
  simp only [gsX_X7_hasMan_1, h]
  by_cases c1 : p < 0
  · rw [if_pos c1]
  · obtain ⟨P, hP, rfl⟩ := nI_of c1
    rw [if_neg c1, if_pos (show nI a ≤ nI P from nI_le (Nat.le_of_not_lt (fun z => hn ⟨P, z, rfl⟩)) hP)]
theorem xHasC0 {p : Int32} (h : V 32 = nI b) (hn : ¬ ∃ P, P < b ∧ p = nI P) : gsX_X7_hasCoat_1 NF p V F = 0 := by
  simp only [gsX_X7_hasCoat_1, h]
  by_cases c1 : p < 0
  · rw [if_pos c1]
  · obtain ⟨P, hP, rfl⟩ := nI_of c1
    rw [if_neg c1, if_pos (show nI b ≤ nI P from nI_le (Nat.le_of_not_lt (fun z => hn ⟨P, z, rfl⟩)) hP)]
theorem xWears1 (h : V 31 = nI a) (ha : a ≤ 6) (hm : m < a) : gsX_X1_wears_1 NF (nI m) V F = F 15 (6 + m) := by
  simp only [gsX_X1_wears_1, xHasM1 (NF := NF) (F := F) h ha hm]
  rw [if_pos trivial, show (6 : Int32) + nI m = nI (6 + m) from nI_add 6 m, nI_clamp (by omega)]
theorem xWears0 {p : Int32} (h : V 31 = nI a) (hn : ¬ ∃ P, P < a ∧ p = nI P) : gsX_X1_wears_1 NF p V F = -1 := by
  simp only [gsX_X1_wears_1, xHasM0 (NF := NF) (F := F) h hn]
  rw [ite01]
theorem xWide1 (h : V 31 = nI a) (ha : a ≤ 6) (hm : m < a) : gsX_X1_manWide_1 NF (nI m) V F = F 15 m := by
  simp only [gsX_X1_manWide_1, xHasM1 (NF := NF) (F := F) h ha hm]
  rw [if_pos trivial, nI_clamp (by omega)]
theorem xPart1 {p : Nat} (h : V 32 = nI b) (hb : b ≤ 6) (hc : c < b) (hp : p < 5) : gsX_X1_part_1 NF (nI p) (nI c) V F = F 15 (12 + p * 6 + c) := by
  simp only [gsX_X1_part_1, xHasC1 (NF := NF) (F := F) h hb hc]
  rw [if_pos trivial, if_neg (show ¬ nI p < (0 : Int32) from nI_pos (by omega)), if_neg (show ¬ (5 : Int32) ≤ nI p from lit_nle (b := 5) rfl hp (by decide)), show nI p * 6 = nI (p * 6) from nI_mulI p 6, show (12 : Int32) + nI (p * 6) = nI (12 + p * 6) from nI_add 12 (p * 6), nI_add, nI_clamp (by omega)]
theorem xPart0 {p q : Int32} (h : V 32 = nI b) (hn : ¬ ∃ P, P < b ∧ q = nI P) : gsX_X1_part_1 NF p q V F = 0 := by
  simp only [gsX_X1_part_1, xHasC0 (NF := NF) (F := F) h hn]
  rw [ite01]
theorem xSetP1 {p : Nat} {z : Int32} (h : V 32 = nI b) (hb : b ≤ 6) (hc : c < b) (hp : p < 5) : gsX_X1_setPart_1 NF (nI p) (nI c) z V F = (V, upd2 F 15 (upd (F 15) (12 + p * 6 + c) z)) := by
  simp only [gsX_X1_setPart_1, xHasC1 (NF := NF) (F := F) h hb hc]
  rw [if_pos trivial, if_neg (show ¬ nI p < (0 : Int32) from nI_pos (by omega)), if_neg (show ¬ (5 : Int32) ≤ nI p from lit_nle (b := 5) rfl hp (by decide)), show nI p * 6 = nI (p * 6) from nI_mulI p 6, show (12 : Int32) + nI (p * 6) = nI (12 + p * 6) from nI_add 12 (p * 6), nI_add, nI_clamp (by omega)]
theorem xSetP0 {p q z : Int32} (h : V 32 = nI b) (hn : ¬ ∃ P, P < b ∧ q = nI P) : gsX_X1_setPart_1 NF p q z V F = (V, F) := by
  simp only [gsX_X1_setPart_1, xHasC0 (NF := NF) (F := F) h hn]
  rw [ite01]
theorem xSetW1 {z : Int32} (h : V 31 = nI a) (ha : a ≤ 6) (hm : m < a) : gsX_X1_setWears_1 NF (nI m) z V F = (V, upd2 F 15 (upd (F 15) (6 + m) z)) := by
  simp only [gsX_X1_setWears_1, xHasM1 (NF := NF) (F := F) h ha hm]
  rw [if_pos trivial, show (6 : Int32) + nI m = nI (6 + m) from nI_add 6 m, nI_clamp (by omega)]
theorem yIsM1 (h : V1 24 = nI a) (ha : a ≤ 6) (hm : m < a) : gsY_X11_isMan_1 NF (nI m) V1 F1 W G = 1 := by
  simp only [gsY_X11_isMan_1, h, yIsIn1 (NF := NF) (v1 := V1) (f1 := F1) (w1 := W) (g := G) hm (show a < 2 ^ 31 by omega)]
  first | exact ite11 | exact if_pos trivial
theorem yIsM0 {p : Int32} (h : V1 24 = nI a) (ha : a ≤ 6) (hn : ¬ ∃ P, P < a ∧ p = nI P) : gsY_X11_isMan_1 NF p V1 F1 W G = 0 := by
  simp only [gsY_X11_isMan_1, h, yIsIn0 (NF := NF) (v1 := V1) (f1 := F1) (w1 := W) (g := G) hn (show a < 2 ^ 31 by omega)]
  exact ite01
theorem yIsC1 (h : V1 25 = nI b) (hb : b ≤ 6) (hc : c < b) : gsY_X11_isCoat_1 NF (nI c) V1 F1 W G = 1 := by
  simp only [gsY_X11_isCoat_1, h, yIsIn1 (NF := NF) (v1 := V1) (f1 := F1) (w1 := W) (g := G) hc (show b < 2 ^ 31 by omega)]
  first | exact ite11 | exact if_pos trivial
theorem yIsC0 {p : Int32} (h : V1 25 = nI b) (hb : b ≤ 6) (hn : ¬ ∃ P, P < b ∧ p = nI P) : gsY_X11_isCoat_1 NF p V1 F1 W G = 0 := by
  simp only [gsY_X11_isCoat_1, h, yIsIn0 (NF := NF) (v1 := V1) (f1 := F1) (w1 := W) (g := G) hn (show b < 2 ^ 31 by omega)]
  exact ite01
end
def ACT (a b : Nat) (v : Nat → Int32) (f : Nat → Nat → Int32) (v1 : Nat → Int32) (f1 : Nat → Nat → Int32) : Prop := ∃ p d u, p < 41 ∧ d + u ≤ 40 ∧ v 21 = nI p ∧ v 22 = nI d ∧ v 23 = nI u ∧ v1 35 = nI d ∧ v1 36 = nI u ∧ (∀ i, i < d → NWR 999 a b (fun k => f 17 ((p + i) % 41 * 44 + k)) (fun k => f1 25 (39 * i + k))) ∧ (∀ i, d ≤ i → i < d + u → NWR 999 a b (fun k => f 17 ((p + i + 1) % 41 * 44 + k)) (fun k => f1 25 (39 * i + k))) ∧ (∀ k, k < 44 → f 17 ((p + d) % 41 * 44 + k) = f 15 k)
def BOX (a b : Nat) (v : Nat → Int32) (f : Nat → Nat → Int32) (f1 : Nat → Nat → Int32) : Prop := ∃ T, T < 8 ∧ v 20 = nI T ∧ ∀ i, i < 3 → f1 36 i = nI (T / 2 ^ i % 2) ∧ (T / 2 ^ i % 2 = 1 → NWR 999 a b (fun k => f 16 (i * 44 + k)) (fun k => f1 37 (39 * i + k)))
def FREL (v : Nat → Int32) (f : Nat → Nat → Int32) (v1 : Nat → Int32) (f1 : Nat → Nat → Int32) : Prop := R3 v f v1 f1 ∧ ∃ a b, v 31 = nI a ∧ v1 24 = nI a ∧ a ≤ 6 ∧ v 32 = nI b ∧ v1 25 = nI b ∧ b ≤ 6 ∧ STM f f1 a ∧ STC f f1 b ∧ NWR 999 a b (f 15) (f1 23) ∧ ACT a b v f v1 f1 ∧ BOX a b v f f1
theorem kx_ne {N : List Nat} {k j : Nat} (hk : N.contains k = true) (hj : N.contains j = false) : k ≠ j := fun z => by rw [z, hj] at hk; cases hk
theorem cpy_at {f g : Nat → Int32} {o n k : Nat} (hk : k < n) : va_cpy f g 0 o n (o + k) = f k := by
  unfold va_cpy
  rw [if_pos ⟨by omega, by omega⟩, Nat.zero_add, Nat.add_sub_cancel_left]
theorem cpy_off {f g : Nat → Int32} {s o n k : Nat} (hk : k < o ∨ o + n ≤ k) : va_cpy f g s o n k = g k := by
  unfold va_cpy
  rw [if_neg (by omega)]
theorem cpy_from {f g : Nat → Int32} {s n k : Nat} (hk : k < n) : va_cpy f g s 0 n k = f (s + k) := by
  unfold va_cpy
  rw [if_pos ⟨by omega, by omega⟩, Nat.sub_zero]
theorem xKeep {V : Nat → Int32} {F : Nat → Nat → Int32} {p d : Nat} (h21 : V 21 = nI p) (h22 : V 22 = nI d) (hp : p < 41) (hd : d ≤ 40) : ∃ (p' d' : Nat) (V' : Nat → Int32), ((d < 40 ∧ p' = p ∧ d' = d + 1) ∨ (d = 40 ∧ p' = (p + 1) % 41 ∧ d' = 40)) ∧ gsX_X5_keepAct_1 NF V F = (V', upd2 F 17 (va_cpy (F 15) (F 17) 0 ((p' + d') % 41 * 44) 44)) ∧ V' 21 = nI p' ∧ V' 22 = nI d' ∧ V' 23 = nI 0 ∧ ∀ k, k ≠ 21 → k ≠ 22 → k ≠ 23 → V' k = V k := by
  have sv : ∀ (r : Nat) (X : Nat → Int32), r < 41 → gsX_X1_saveTo_1 NF (nI r) X F = (X, upd2 F 17 (va_cpy (F 15) (F 17) 0 (r * 44) 44)) := fun r X hr => by
    simp only [gsX_X1_saveTo_1]
    rw [if_neg (show ¬ nI r < (0 : Int32) from nI_pos (by omega)), if_neg (show ¬ (41 : Int32) ≤ nI r from lit_nle (b := 41) rfl hr (by decide)), show nI r * 44 = nI (r * 44) from nI_mulI r 44, nI_clamp (by omega), cN0, show (44 : Int32).toNatClampNeg = 44 from by decide]
  have m41 : ∀ n : Nat, n < 2 ^ 31 → nI n - nI n / 41 * 41 = nI (n % 41) := fun n hn => nI_modI (b := 41) hn (by decide)
  by_cases c : d = 40
  · refine ⟨(p + 1) % 41, 40, upd (upd V 23 0) 21 (nI ((p + 1) % 41)), Or.inr ⟨c, rfl, rfl⟩, ?_, pk_us, (pk_un (by decide)).trans ((pk_un (by decide)).trans (by rw [h22, c])), (pk_un (by decide)).trans pk_us, fun k k1 k2 k3 => (pk_un k1).trans (pk_un k3)⟩
    simp only [gsX_X5_keepAct_1, h21, h22, nI_1]
    rw [if_pos (show (40 : Int32) ≤ nI d from lit_le (b := 40) rfl (by omega) (by omega)), m41 (p + 1) (by omega), nI_add, m41 _ (by omega), c, sv _ _ (Nat.mod_lt _ (by decide))]
  · refine ⟨p, d + 1, upd (upd V 23 0) 22 (nI (d + 1)), Or.inl ⟨by omega, rfl, rfl⟩, ?_, (pk_un (by decide)).trans ((pk_un (by decide)).trans h21), pk_us, (pk_un (by decide)).trans pk_us, fun k k1 k2 k3 => (pk_un k2).trans (pk_un k3)⟩
    simp only [gsX_X5_keepAct_1, h21, h22, nI_1]
    rw [if_neg (show ¬ (40 : Int32) ≤ nI d from lit_nle (b := 40) rfl (by omega) (by decide)), nI_add, m41 _ (by omega), sv _ _ (Nat.mod_lt _ (by decide))]
end
end
section
section
variable {NF : Nat}
theorem yFill1 {V : Nat → Int32} {F0 : Nat → Nat → Int32} {W : Int64} {G : Nat → Int64} : ∃ F' : Nat → Nat → Int32, (∀ q, q ≠ 24 → F' q = F0 q) ∧ (∀ i, ¬ i < 39 → F' 24 i = F0 24 i) ∧ (∀ k, k < 39 → F' 24 k = F0 23 k) ∧ gsY_X11_fill_1_L1 NF (4294967296 + NF) 0 V F0 W G = (V, F', W, G) := by
  refine lpQ (S := SY) (fun fu i s => gsY_X11_fill_1_L1 NF fu i s.1 s.2.1 s.2.2.1 s.2.2.2) (fun r => ∃ F' : Nat → Nat → Int32, (∀ q, q ≠ 24 → F' q = F0 q) ∧ (∀ i, ¬ i < 39 → F' 24 i = F0 24 i) ∧ (∀ k, k < 39 → F' 24 k = F0 23 k) ∧ r = (V, F', W, G)) (fun j s => ∃ F' : Nat → Nat → Int32, s = (V, F', W, G) ∧ (∀ q, q ≠ 24 → F' q = F0 q) ∧ (∀ i, ¬ i < 39 → F' 24 i = F0 24 i) ∧ (∀ k, k < j → F' 24 k = F0 23 k)) 39 ?_ ?_ 39 0 (4294967296 + NF) (V, F0, W, G) (by omega) (by omega) ⟨F0, rfl, fun q _ => rfl, fun i _ => rfl, fun k hk => absurd hk (Nat.not_lt_zero _)⟩
  · intro fu j s hj hs
    obtain ⟨y, rfl, hF, hO24, hK⟩ := hs
    refine Or.inl ⟨(V, (upd2 y 24 (upd (y 24) j (y 23 j))), W, G), ⟨_, rfl, ?_, ?_, ?_⟩, ?_⟩
    · intro q h24
      exact (u2n h24).trans (hF q h24)
    · intro i z0
      show (upd (y 24) j (y 23 j)) i = _
      rw [pk_un (by omega)]
      exact hO24 i z0
    · intro k hk
      show (upd (y 24) j (y 23 j)) k = F0 23 k
      by_cases e : k = j
      · subst e
        exact by rw [pk_us]; exact congrFun (hF 23 (by decide)) _
      · exact by rw [pk_un (by omega)]; exact hK k (by omega)
    · show gsY_X11_fill_1_L1 NF (fu + 1) (nI j) V y W G = gsY_X11_fill_1_L1 NF fu (nI (j + 1)) V (upd2 y 24 (upd (y 24) j (y 23 j))) W G
      simp only [gsY_X11_fill_1_L1]
      rw [if_neg (show ¬ (39 : Int32) ≤ nI j from lit_nle (b := 39) rfl hj (by decide)), nI_1, nI_clamp (show j < 2 ^ 31 by omega)]
      all_goals first | rfl | (simp only [upd2_2]; done) | (simp only [upd2_2]; rfl)
  · intro fu s hs
    obtain ⟨y, rfl, hF, hO, hK⟩ := hs
    refine ⟨y, hF, hO, hK, ?_⟩
    show gsY_X11_fill_1_L1 NF (fu + 1) (nI 39) V y W G = _
    simp only [gsY_X11_fill_1_L1]
    rw [if_pos (show (39 : Int32) ≤ nI 39 from lit_le (b := 39) rfl (Nat.le_refl _) (by decide))]
    all_goals rfl
theorem yFill {V : Nat → Int32} {F0 : Nat → Nat → Int32} {W : Int64} {G : Nat → Int64} : ∃ F' : Nat → Nat → Int32, (∀ q, q ≠ 24 → F' q = F0 q) ∧ (∀ k, k < 39 → F' 24 k = F0 23 k) ∧ gsY_X11_fill_1 NF V F0 W G = (V, F', W, G) := by
  obtain ⟨A, a1, a2, a3, a4⟩ := yFill1 (NF := NF) (V := V) (F0 := F0) (W := W) (G := G)
  exact ⟨A, a1, a3, a4⟩
theorem yActA {vv : Nat → Int32} {V : Nat → Int32} {F0 : Nat → Nat → Int32} {W : Int64} {G : Nat → Int64} {o : Nat} (ho : o < 100000) (he : 39 * vv 35 = nI o) : ∃ F' : Nat → Nat → Int32, (∀ q, q ≠ 25 → F' q = F0 q) ∧ (∀ i, ¬ (o ≤ i ∧ i < o + 39) → F' 25 i = F0 25 i) ∧ (∀ k, k < 39 → F' 25 (o + k) = F0 23 k) ∧ gsY_X11_act_1_L2 NF vv (4294967296 + NF) 0 V F0 W G = (match gsY_X11_fill_1 NF (upd (upd V 35 (vv 35 + 1)) 36 0) F' W G with | (v7, f8, w9, g10) => (v7, f8, w9, g10)) := by
  refine lpQ (S := SY) (fun fu i s => gsY_X11_act_1_L2 NF vv fu i s.1 s.2.1 s.2.2.1 s.2.2.2) (fun r => ∃ F' : Nat → Nat → Int32, (∀ q, q ≠ 25 → F' q = F0 q) ∧ (∀ i, ¬ (o ≤ i ∧ i < o + 39) → F' 25 i = F0 25 i) ∧ (∀ k, k < 39 → F' 25 (o + k) = F0 23 k) ∧ r = (match gsY_X11_fill_1 NF (upd (upd V 35 (vv 35 + 1)) 36 0) F' W G with | (v7, f8, w9, g10) => (v7, f8, w9, g10))) (fun j s => ∃ F' : Nat → Nat → Int32, s = (V, F', W, G) ∧ (∀ q, q ≠ 25 → F' q = F0 q) ∧ (∀ i, ¬ (o ≤ i ∧ i < o + 39) → F' 25 i = F0 25 i) ∧ (∀ k, k < j → F' 25 (o + k) = F0 23 k)) 39 ?_ ?_ 39 0 (4294967296 + NF) (V, F0, W, G) (by omega) (by omega) ⟨F0, rfl, fun q _ => rfl, fun i _ => rfl, fun k hk => absurd hk (Nat.not_lt_zero _)⟩
  · intro fu j s hj hs
    obtain ⟨y, rfl, hF, hO, hK⟩ := hs
    refine Or.inl ⟨(V, upd2 y 25 (upd (y 25) (o + j) (y 23 j)), W, G), ⟨_, rfl, ?_, ?_, ?_⟩, ?_⟩
    · intro q hq
      exact (u2n hq).trans (hF q hq)
    · intro i hi
      show (upd (y 25) (o + j) (y 23 j)) i = _
      rw [pk_un (by omega)]
      exact hO i hi
    · intro k hk
      show (upd (y 25) (o + j) (y 23 j)) (o + k) = _
      by_cases e : k = j
      · rw [e, pk_us, hF 23 (by decide)]
      · rw [pk_un (by omega)]
        exact hK k (by omega)
    · show gsY_X11_act_1_L2 NF vv (fu + 1) (nI j) V y W G = gsY_X11_act_1_L2 NF vv fu (nI (j + 1)) V _ W G
      simp only [gsY_X11_act_1_L2]
      rw [if_neg (show ¬ (39 : Int32) ≤ nI j from lit_nle (b := 39) rfl hj (by decide)), nI_1, he, nI_add, nI_clamp (show o + j < 2 ^ 31 by omega), nI_clamp (show j < 2 ^ 31 by omega)]
  · intro fu s hs
    obtain ⟨y, rfl, hF, hO, hK⟩ := hs
    refine ⟨y, hF, hO, hK, ?_⟩
    show gsY_X11_act_1_L2 NF vv (fu + 1) (nI 39) V y W G = _
    simp only [gsY_X11_act_1_L2]
    rw [if_pos (show (39 : Int32) ≤ nI 39 from lit_le (b := 39) rfl (Nat.le_refl _) (by decide))]
    all_goals rfl
theorem yActB {tt : Int32} {V : Nat → Int32} {F0 : Nat → Nat → Int32} {W : Int64} {G : Nat → Int64} {o : Nat} (ho : o < 100000) (he : 39 * tt = nI o) : ∃ F' : Nat → Nat → Int32, (∀ q, q ≠ 25 → F' q = F0 q) ∧ (∀ i, ¬ (o ≤ i ∧ i < o + 39) → F' 25 i = F0 25 i) ∧ (∀ k, k < 39 → F' 25 (o + k) = F0 23 k) ∧ gsY_X11_act_1_L24 NF tt (4294967296 + NF) 0 V F0 W G = (match gsY_X11_fill_1 NF (upd (upd V 35 (tt + 1)) 36 0) F' W G with | (v7, f8, w9, g10) => (v7, f8, w9, g10)) := by
  refine lpQ (S := SY) (fun fu i s => gsY_X11_act_1_L24 NF tt fu i s.1 s.2.1 s.2.2.1 s.2.2.2) (fun r => ∃ F' : Nat → Nat → Int32, (∀ q, q ≠ 25 → F' q = F0 q) ∧ (∀ i, ¬ (o ≤ i ∧ i < o + 39) → F' 25 i = F0 25 i) ∧ (∀ k, k < 39 → F' 25 (o + k) = F0 23 k) ∧ r = (match gsY_X11_fill_1 NF (upd (upd V 35 (tt + 1)) 36 0) F' W G with | (v7, f8, w9, g10) => (v7, f8, w9, g10))) (fun j s => ∃ F' : Nat → Nat → Int32, s = (V, F', W, G) ∧ (∀ q, q ≠ 25 → F' q = F0 q) ∧ (∀ i, ¬ (o ≤ i ∧ i < o + 39) → F' 25 i = F0 25 i) ∧ (∀ k, k < j → F' 25 (o + k) = F0 23 k)) 39 ?_ ?_ 39 0 (4294967296 + NF) (V, F0, W, G) (by omega) (by omega) ⟨F0, rfl, fun q _ => rfl, fun i _ => rfl, fun k hk => absurd hk (Nat.not_lt_zero _)⟩
  · intro fu j s hj hs
    obtain ⟨y, rfl, hF, hO, hK⟩ := hs
    refine Or.inl ⟨(V, upd2 y 25 (upd (y 25) (o + j) (y 23 j)), W, G), ⟨_, rfl, ?_, ?_, ?_⟩, ?_⟩
    · intro q hq
      exact (u2n hq).trans (hF q hq)
    · intro i hi
      show (upd (y 25) (o + j) (y 23 j)) i = _
      rw [pk_un (by omega)]
      exact hO i hi
    · intro k hk
      show (upd (y 25) (o + j) (y 23 j)) (o + k) = _
      by_cases e : k = j
      · rw [e, pk_us, hF 23 (by decide)]
      · rw [pk_un (by omega)]
        exact hK k (by omega)
    · show gsY_X11_act_1_L24 NF tt (fu + 1) (nI j) V y W G = gsY_X11_act_1_L24 NF tt fu (nI (j + 1)) V _ W G
      simp only [gsY_X11_act_1_L24]
      rw [if_neg (show ¬ (39 : Int32) ≤ nI j from lit_nle (b := 39) rfl hj (by decide)), nI_1, he, nI_add, nI_clamp (show o + j < 2 ^ 31 by omega), nI_clamp (show j < 2 ^ 31 by omega)]
  · intro fu s hs
    obtain ⟨y, rfl, hF, hO, hK⟩ := hs
    refine ⟨y, hF, hO, hK, ?_⟩
    show gsY_X11_act_1_L24 NF tt (fu + 1) (nI 39) V y W G = _
    simp only [gsY_X11_act_1_L24]
    rw [if_pos (show (39 : Int32) ≤ nI 39 from lit_le (b := 39) rfl (Nat.le_refl _) (by decide))]
    all_goals rfl
theorem yImg {pp : Int32} {V : Nat → Int32} {F0 : Nat → Nat → Int32} {W : Int64} {G : Nat → Int64} {o : Nat} (ho : o < 100000) (he : 39 * pp = nI o) : ∃ F' : Nat → Nat → Int32, (∀ q, q ≠ 37 → F' q = F0 q) ∧ (∀ i, ¬ (o ≤ i ∧ i < o + 39) → F' 37 i = F0 37 i) ∧ (∀ k, k < 39 → F' 37 (o + k) = F0 23 k) ∧ gsY_X11_image_1_L5 NF pp (4294967296 + NF) 0 V F0 W G = (F' 23 (37 : Int32).toNatClampNeg, V, F', W, G) := by
  refine lpQ (S := SY) (fun fu i s => gsY_X11_image_1_L5 NF pp fu i s.1 s.2.1 s.2.2.1 s.2.2.2) (fun r => ∃ F' : Nat → Nat → Int32, (∀ q, q ≠ 37 → F' q = F0 q) ∧ (∀ i, ¬ (o ≤ i ∧ i < o + 39) → F' 37 i = F0 37 i) ∧ (∀ k, k < 39 → F' 37 (o + k) = F0 23 k) ∧ r = (F' 23 (37 : Int32).toNatClampNeg, V, F', W, G)) (fun j s => ∃ F' : Nat → Nat → Int32, s = (V, F', W, G) ∧ (∀ q, q ≠ 37 → F' q = F0 q) ∧ (∀ i, ¬ (o ≤ i ∧ i < o + 39) → F' 37 i = F0 37 i) ∧ (∀ k, k < j → F' 37 (o + k) = F0 23 k)) 39 ?_ ?_ 39 0 (4294967296 + NF) (V, F0, W, G) (by omega) (by omega) ⟨F0, rfl, fun q _ => rfl, fun i _ => rfl, fun k hk => absurd hk (Nat.not_lt_zero _)⟩
  · intro fu j s hj hs
    obtain ⟨y, rfl, hF, hO, hK⟩ := hs
    refine Or.inl ⟨(V, upd2 y 37 (upd (y 37) (o + j) (y 23 j)), W, G), ⟨_, rfl, ?_, ?_, ?_⟩, ?_⟩
    · intro q hq
      exact (u2n hq).trans (hF q hq)
    · intro i hi
      show (upd (y 37) (o + j) (y 23 j)) i = _
      rw [pk_un (by omega)]
      exact hO i hi
    · intro k hk
      show (upd (y 37) (o + j) (y 23 j)) (o + k) = _
      by_cases e : k = j
      · rw [e, pk_us, hF 23 (by decide)]
      · rw [pk_un (by omega)]
        exact hK k (by omega)
    · show gsY_X11_image_1_L5 NF pp (fu + 1) (nI j) V y W G = gsY_X11_image_1_L5 NF pp fu (nI (j + 1)) V _ W G
      simp only [gsY_X11_image_1_L5]
      rw [if_neg (show ¬ (39 : Int32) ≤ nI j from lit_nle (b := 39) rfl hj (by decide)), nI_1, he, nI_add, nI_clamp (show o + j < 2 ^ 31 by omega), nI_clamp (show j < 2 ^ 31 by omega)]
  · intro fu s hs
    obtain ⟨y, rfl, hF, hO, hK⟩ := hs
    refine ⟨y, hF, hO, hK, ?_⟩
    show gsY_X11_image_1_L5 NF pp (fu + 1) (nI 39) V y W G = _
    simp only [gsY_X11_image_1_L5]
    rw [if_pos (show (39 : Int32) ≤ nI 39 from lit_le (b := 39) rfl (Nat.le_refl _) (by decide))]
    all_goals rfl
theorem yShift {vv V : Nat → Int32} {F0 : Nat → Nat → Int32} {W : Int64} {G : Nat → Int64} : ∃ F' : Nat → Nat → Int32, (∀ q, q ≠ 25 → F' q = F0 q) ∧ (∀ i, i < 1521 → F' 25 i = F0 25 (39 + i)) ∧ gsY_X11_act_1_L20 NF vv (4294967296 + NF) 0 V F0 W G = gsY_X11_act_1_L24 NF (vv 35 - 1) (4294967296 + NF) 0 (upd V 35 (vv 35 - 1)) F' W G := by
  refine lpQ (S := SY) (fun fu i s => gsY_X11_act_1_L20 NF vv fu i s.1 s.2.1 s.2.2.1 s.2.2.2) (fun r => ∃ F' : Nat → Nat → Int32, (∀ q, q ≠ 25 → F' q = F0 q) ∧ (∀ i, i < 1521 → F' 25 i = F0 25 (39 + i)) ∧ r = gsY_X11_act_1_L24 NF (vv 35 - 1) (4294967296 + NF) 0 (upd V 35 (vv 35 - 1)) F' W G) (fun j s => ∃ F' : Nat → Nat → Int32, s = (V, F', W, G) ∧ (∀ q, q ≠ 25 → F' q = F0 q) ∧ (∀ i, i < j → F' 25 i = F0 25 (39 + i)) ∧ (∀ i, j ≤ i → F' 25 i = F0 25 i)) 1521 ?_ ?_ 1521 0 (4294967296 + NF) (V, F0, W, G) (by omega) (by omega) ⟨F0, rfl, fun q _ => rfl, fun k hk => absurd hk (Nat.not_lt_zero _), fun i _ => rfl⟩
  · intro fu j s hj hs
    obtain ⟨y, rfl, hF, hK, hO⟩ := hs
    refine Or.inl ⟨(V, upd2 y 25 (upd (y 25) j (y 25 (39 + j))), W, G), ⟨_, rfl, ?_, ?_, ?_⟩, ?_⟩
    · intro q hq
      exact (u2n hq).trans (hF q hq)
    · intro i hi
      show (upd (y 25) j (y 25 (39 + j))) i = _
      by_cases e : i = j
      · rw [e, pk_us]; exact hO _ (by omega)
      · rw [pk_un e]; exact hK i (by omega)
    · intro i hi
      show (upd (y 25) j (y 25 (39 + j))) i = _
      rw [pk_un (by omega)]
      exact hO i (by omega)
    · show gsY_X11_act_1_L20 NF vv (fu + 1) (nI j) V y W G = gsY_X11_act_1_L20 NF vv fu (nI (j + 1)) V _ W G
      simp only [gsY_X11_act_1_L20]
      rw [if_neg (show ¬ (1521 : Int32) ≤ nI j from lit_nle (b := 1521) rfl hj (by decide)), nI_1, show (39 : Int32) + nI j = nI (39 + j) from nI_add 39 j, nI_clamp (show j < 2 ^ 31 by omega), nI_clamp (show 39 + j < 2 ^ 31 by omega)]
  · intro fu s hs
    obtain ⟨y, rfl, hF, hK, hO⟩ := hs
    refine ⟨y, hF, hK, ?_⟩
    show gsY_X11_act_1_L20 NF vv (fu + 1) (nI 1521) V y W G = _
    simp only [gsY_X11_act_1_L20]
    rw [if_pos (show (1521 : Int32) ≤ nI 1521 from lit_le (b := 1521) rfl (Nat.le_refl _) (by decide))]
theorem yAct {V : Nat → Int32} {F : Nat → Nat → Int32} {W : Int64} {G : Nat → Int64} {d : Nat} (h35 : V 35 = nI d) (hd : d ≤ 40) : ∃ (d' : Nat) (V' : Nat → Int32) (F' : Nat → Nat → Int32), gsY_X11_act_1 NF V F W G = (V', F', W, G) ∧ V' 35 = nI d' ∧ V' 36 = nI 0 ∧ (∀ k, k ≠ 35 → k ≠ 36 → V' k = V k) ∧ (∀ q, q ≠ 24 → q ≠ 25 → F' q = F q) ∧ (∀ k, k < 39 → F' 24 k = F 23 k) ∧ ((d < 40 ∧ d' = d + 1 ∧ (∀ k, k < 39 → F' 25 (39 * d + k) = F 23 k) ∧ ∀ i, i < 39 * d → F' 25 i = F 25 i) ∨ (d = 40 ∧ d' = 40 ∧ (∀ k, k < 39 → F' 25 (1521 + k) = F 23 k) ∧ ∀ i, i < 1521 → F' 25 i = F 25 (39 + i))) := by
  by_cases c : d = 40
  · obtain ⟨A, a1, a2, a3⟩ := yShift (NF := NF) (vv := V) (V := V) (F0 := F) (W := W) (G := G)
    have e39 : V 35 - 1 = nI 39 := by rw [h35, c]; rfl
    rw [e39] at a3
    obtain ⟨B, b1, b2, b3, b4⟩ := yActB (NF := NF) (tt := nI 39) (V := upd V 35 (nI 39)) (F0 := A) (W := W) (G := G) (o := 1521) (by decide) (by decide)
    obtain ⟨C, c1, c2, c3⟩ := yFill (NF := NF) (V := upd (upd (upd V 35 (nI 39)) 35 (nI 39 + 1)) 36 0) (F0 := B) (W := W) (G := G)
    rw [c3] at b4
    refine ⟨40, upd (upd (upd V 35 (nI 39)) 35 (nI 39 + 1)) 36 0, C, ?_, (pk_un (by decide)).trans pk_us, pk_us, fun k k1 k2 => (pk_un k2).trans ((pk_un k1).trans (pk_un k1)), fun q q1 q2 => (c1 q q1).trans ((b1 q q2).trans (a1 q q2)), fun k hk => ?_, Or.inr ⟨c, rfl, fun k hk => ?_, fun i hi => ?_⟩⟩
    · simp only [gsY_X11_act_1]
      rw [if_pos (show V 35 = 40 by rw [h35, c]; rfl), a3]
      exact b4
    · rw [c2 k hk, b1 23 (by decide), a1 23 (by decide)]
    · rw [c1 25 (by decide), b3 k hk, a1 23 (by decide)]
    · rw [c1 25 (by decide), b2 i (by omega)]
      exact a2 i hi
  · obtain ⟨B, b1, b2, b3, b4⟩ := yActA (NF := NF) (vv := V) (V := V) (F0 := F) (W := W) (G := G) (o := 39 * d) (by omega) (by rw [h35]; exact nI_mulI 39 d)
    obtain ⟨C, c1, c2, c3⟩ := yFill (NF := NF) (V := upd (upd V 35 (V 35 + 1)) 36 0) (F0 := B) (W := W) (G := G)
    rw [c3] at b4
    refine ⟨d + 1, upd (upd V 35 (V 35 + 1)) 36 0, C, ?_, (pk_un (by decide)).trans (pk_us.trans (by rw [h35, nI_1])), pk_us, fun k k1 k2 => (pk_un k2).trans (pk_un k1), fun q q1 q2 => (c1 q q1).trans (b1 q q2), fun k hk => ?_, Or.inl ⟨by omega, rfl, fun k hk => ?_, fun i hi => ?_⟩⟩
    · simp only [gsY_X11_act_1]
      rw [if_neg (show ¬ V 35 = 40 by rw [h35]; exact nlit 40 40 rfl (by omega) (by decide) c)]
      exact b4
    · rw [c2 k hk, b1 23 (by decide)]
    · rw [c1 25 (by decide)]; exact b3 k hk
    · rw [c1 25 (by decide)]; exact b2 i (by omega)
theorem ACT.step {a b : Nat} {v : Nat → Int32} {f F : Nat → Nat → Int32} {v1 : Nat → Int32} {f1 F1 F2 : Nat → Nat → Int32} {w1 : Int64} {g : Nat → Int64} (ha : a ≤ 6) (hb : b ≤ 6) (h : ACT a b v f v1 f1) (hn : NWR 999 a b (f 15) (f1 23)) (hF : F 17 = f 17) (hF1 : F1 25 = f1 25) (hF3 : F1 23 = f1 23) {V' : Nat → Int32} {F' : Nat → Nat → Int32} {V1' : Nat → Int32} {F1' : Nat → Nat → Int32} (e : gsX_X5_keepAct_1 NF v F = (V', F')) (e' : gsY_X11_act_1 NF v1 F1 w1 g = (V1', F1', w1, g)) (h25 : F2 25 = F1' 25) : ACT a b V' F' V1' F2 ∧ (∀ k, k ≠ 21 → k ≠ 22 → k ≠ 23 → V' k = v k) ∧ (∀ q, q ≠ 17 → F' q = F q) ∧ (∀ k, k ≠ 35 → k ≠ 36 → V1' k = v1 k) ∧ (∀ q, q ≠ 24 → q ≠ 25 → F1' q = F1 q) ∧ (∀ k, k < 39 → F1' 24 k = f1 23 k) := by
  obtain ⟨p, d, u, hp, hdu, h21, h22, h23, h35, h36, hr, hs, hl⟩ := h
  obtain ⟨p', d', X, c1, c2, c3, c4, c5, c6⟩ := xKeep (NF := NF) (F := F) h21 h22 hp (by omega)
  obtain ⟨dd, Y, Z, y1, y2, y3, y4, y5, y6, y7⟩ := yAct (NF := NF) (F := F1) (W := w1) (G := g) h35 (by omega)
  rw [c2] at e
  rw [y1] at e'
  cases e
  cases e'
  have row : ∀ r k, k < 44 → r < 41 → r ≠ (p' + d') % 41 → va_cpy (F 15) (F 17) 0 ((p' + d') % 41 * 44) 44 (r * 44 + k) = f 17 (r * 44 + k) := fun r k hk hr hne => by
    rw [cpy_off (by omega), hF]
  refine ⟨⟨p', d', 0, ?_, ?_, c3, c4, c5, ?_, y3, fun i hi => ?_, fun i h1 h2 => absurd h2 (by omega), fun k hk => ?_⟩, c6, fun q hq => u2n hq, y4, y5, fun k hk => by rw [y6 k hk, hF3]⟩
  · omega
  · omega
  · rw [y2]
    have : dd = d' := by omega
    rw [this]
  · show NWR 999 a b (fun k => va_cpy (F 15) (F 17) 0 ((p' + d') % 41 * 44) 44 ((p' + i) % 41 * 44 + k)) (fun k => F2 25 (39 * i + k))
    rw [h25]
    rcases y7 with ⟨z1, z2, z3, z4⟩ | ⟨z1, z2, z3, z4⟩
    · have ep : p' = p ∧ d' = d + 1 := by omega
      obtain ⟨rfl, rfl⟩ := ep
      by_cases ei : i = d
      · subst ei
        refine hn.cg ha hb (fun k hk => ?_) (fun k hk => ?_)
        · show va_cpy (F 15) (F 17) 0 ((p' + (i + 1)) % 41 * 44) 44 ((p' + i) % 41 * 44 + k) = _
          rw [row ((p' + i) % 41) k hk (Nat.mod_lt _ (by decide)) (by omega)]
          exact hl k hk
        · show F1' 25 (39 * i + k) = _
          rw [z3 k hk, hF3]
      · refine (hr i (by omega)).cg ha hb (fun k hk => ?_) (fun k hk => ?_)
        · show va_cpy (F 15) (F 17) 0 ((p' + (d + 1)) % 41 * 44) 44 ((p' + i) % 41 * 44 + k) = _
          rw [row ((p' + i) % 41) k hk (Nat.mod_lt _ (by decide)) (by omega)]
        · show F1' 25 (39 * i + k) = _
          rw [z4 _ (by omega), hF1]
    · have ep : p' = (p + 1) % 41 ∧ d' = 40 := by omega
      obtain ⟨rfl, rfl⟩ := ep
      subst z1
      by_cases ei : i = 39
      · subst ei
        refine hn.cg ha hb (fun k hk => ?_) (fun k hk => ?_)
        · show va_cpy (F 15) (F 17) 0 (((p + 1) % 41 + 40) % 41 * 44) 44 (((p + 1) % 41 + 39) % 41 * 44 + k) = _
          rw [row (((p + 1) % 41 + 39) % 41) k hk (Nat.mod_lt _ (by decide)) (by omega), show ((p + 1) % 41 + 39) % 41 = (p + 40) % 41 by omega]
          exact hl k hk
        · show F1' 25 (39 * 39 + k) = _
          rw [show 39 * 39 + k = 1521 + k from rfl, z3 k hk, hF3]
      · refine (hr (i + 1) (by omega)).cg ha hb (fun k hk => ?_) (fun k hk => ?_)
        · show va_cpy (F 15) (F 17) 0 (((p + 1) % 41 + 40) % 41 * 44) 44 (((p + 1) % 41 + i) % 41 * 44 + k) = f 17 ((p + (i + 1)) % 41 * 44 + k)
          rw [row (((p + 1) % 41 + i) % 41) k hk (Nat.mod_lt _ (by decide)) (by omega), show ((p + 1) % 41 + i) % 41 = (p + (i + 1)) % 41 by omega]
        · show F1' 25 (39 * i + k) = f1 25 (39 * (i + 1) + k)
          rw [z4 _ (by omega), hF1, show 39 + (39 * i + k) = 39 * (i + 1) + k by omega]
  · show va_cpy (F 15) (F 17) 0 ((p' + d') % 41 * 44) 44 ((p' + d') % 41 * 44 + k) = F 15 k
    exact cpy_at hk
end
end
section
section
variable {NF : Nat} {v : Nat → Int32} {f : Nat → Nat → Int32} {v1 : Nat → Int32} {f1 : Nat → Nat → Int32} {w1 : Int64} {g : Nat → Int64}
abbrev XKI : List Nat := [18, 31, 32, 33, 34, 35, 36, 1, 7, 8, 0, 41, 20, 21, 22, 23]
abbrev XKF : List Nat := [9, 10, 11, 12, 0, 23, 24, 25, 26, 15, 16, 17]
abbrev YKI : List Nat := [9, 16, 24, 25, 26, 27, 28, 29, 0, 1, 2, 38, 39, 35, 36]
abbrev YKF : List Nat := [4, 5, 16, 17, 18, 19, 20, 21, 22, 0, 30, 31, 32, 33, 23, 25, 36, 37]
theorem FREL.cp {v' : Nat → Int32} {f' : Nat → Nat → Int32} {v1' : Nat → Int32} {f1' : Nat → Nat → Int32} (h : FREL v f v1 f1) (r : R3 v' f' v1' f1') (a : ∀ k, ([31, 32, 20, 21, 22, 23] : List Nat).contains k = true → v' k = v k) (b : ∀ k, ([9, 10, 15, 16, 17] : List Nat).contains k = true → f' k = f k) (c : ∀ k, ([24, 25, 35, 36] : List Nat).contains k = true → v1' k = v1 k) (d : ∀ k, ([16, 17, 18, 19, 20, 21, 22, 23, 25, 36, 37] : List Nat).contains k = true → f1' k = f1 k) : FREL v' f' v1' f1' := by
  obtain ⟨hr, A, B, a1, a2, a3, b1, b2, b3, sm, sc, nw, ac, bx⟩ := h
  refine ⟨r, A, B, (a 31 rfl).trans a1, (c 24 rfl).trans a2, a3, (a 32 rfl).trans b1, (c 25 rfl).trans b2, b3, ?_, ?_, ?_, ?_, ?_⟩
  · unfold STM; rw [b 9 rfl, d 16 rfl, d 17 rfl, d 18 rfl]; exact sm
  · unfold STC; rw [b 10 rfl, d 19 rfl, d 20 rfl, d 21 rfl, d 22 rfl]; exact sc
  · rw [b 15 rfl, d 23 rfl]; exact nw
  · unfold ACT; rw [a 21 rfl, a 22 rfl, a 23 rfl, c 35 rfl, c 36 rfl, b 15 rfl, b 17 rfl, d 25 rfl]; exact ac
  · unfold BOX; rw [a 20 rfl, b 16 rfl, d 36 rfl, d 37 rfl]; exact bx
theorem FREL.keep {v' : Nat → Int32} {f' : Nat → Nat → Int32} {v1' : Nat → Int32} {f1' : Nat → Nat → Int32} (h : FREL v f v1 f1) (a : ∀ k, XKI.contains k = true → v' k = v k) (b : ∀ k, XKF.contains k = true → f' k = f k) (c : ∀ k, YKI.contains k = true → v1' k = v1 k) (d : ∀ k, YKF.contains k = true → f1' k = f1 k) : FREL v' f' v1' f1' :=
  h.cp (h.1.keep (fun k hk => a k (kx_in (by decide) hk)) (fun k hk => b k (kx_in (by decide) hk)) (fun k hk => c k (kx_in (by decide) hk)) (fun k hk => d k (kx_in (by decide) hk)))
    (fun k hk => a k (kx_in (by decide) hk)) (fun k hk => b k (kx_in (by decide) hk)) (fun k hk => c k (kx_in (by decide) hk)) (fun k hk => d k (kx_in (by decide) hk))
theorem FREL.act {F F1 F2 : Nat → Nat → Int32} {V' : Nat → Int32} {F' : Nat → Nat → Int32} {V1' : Nat → Int32} {F1' : Nat → Nat → Int32} (h : FREL v f v1 f1) (hF : ∀ q, q ≠ 13 → q ≠ 14 → q ≠ 15 → F q = f q) (hF1 : ∀ q, q ≠ 24 → F1 q = f1 q) (e : gsX_X5_keepAct_1 NF v F = (V', F')) (e' : gsY_X11_act_1 NF v1 F1 w1 g = (V1', F1', w1, g)) (h2 : ∀ q, q ≠ 7 → q ≠ 8 → q ≠ 23 → q ≠ 24 → F2 q = F1' q) (hn : ∀ a b, v 31 = nI a → v1 24 = nI a → v 32 = nI b → v1 25 = nI b → a ≤ 6 → b ≤ 6 → STM f f1 a → STC f f1 b → NWR 999 a b (f 15) (f1 23) → NWR 999 a b (F 15) (F2 23)) : FREL V' F' V1' F2 := by
  obtain ⟨hr, a, b, a1, a2, a3, b1, b2, b3, sm, sc, nw, ac, bx⟩ := h
  obtain ⟨s1, s2, s3, s4, s5, s6⟩ := ACT.step a3 b3 ac nw (hF 17 (by decide) (by decide) (by decide)) (hF1 25 (by decide)) (hF1 23 (by decide)) e e' (h2 25 (by decide) (by decide) (by decide) (by decide))
  have X : ∀ q, q ≠ 13 → q ≠ 14 → q ≠ 15 → q ≠ 17 → F' q = f q := fun q q1 q2 q3 q4 => (s3 q q4).trans (hF q q1 q2 q3)
  have Y : ∀ q, q ≠ 7 → q ≠ 8 → q ≠ 23 → q ≠ 24 → q ≠ 25 → F2 q = f1 q := fun q q1 q2 q3 q4 q5 => (h2 q q1 q2 q3 q4).trans ((s5 q q4 q5).trans (hF1 q q4))
  refine ⟨hr.keep (fun k hk => s2 k (kx_ne hk rfl) (kx_ne hk rfl) (kx_ne hk rfl)) (fun k hk => X k (kx_ne hk rfl) (kx_ne hk rfl) (kx_ne hk rfl) (kx_ne hk rfl)) (fun k hk => s4 k (kx_ne hk rfl) (kx_ne hk rfl)) (fun k hk => Y k (kx_ne hk rfl) (kx_ne hk rfl) (kx_ne hk rfl) (kx_ne hk rfl) (kx_ne hk rfl)), a, b, (s2 31 (by decide) (by decide) (by decide)).trans a1, (s4 24 (by decide) (by decide)).trans a2, a3, (s2 32 (by decide) (by decide) (by decide)).trans b1, (s4 25 (by decide) (by decide)).trans b2, b3, ?_, ?_, ?_, s1, ?_⟩
  · unfold STM; rw [X 9 (by decide) (by decide) (by decide) (by decide), Y 16 (by decide) (by decide) (by decide) (by decide) (by decide), Y 17 (by decide) (by decide) (by decide) (by decide) (by decide), Y 18 (by decide) (by decide) (by decide) (by decide) (by decide)]; exact sm
  · unfold STC; rw [X 10 (by decide) (by decide) (by decide) (by decide), Y 19 (by decide) (by decide) (by decide) (by decide) (by decide), Y 20 (by decide) (by decide) (by decide) (by decide) (by decide), Y 21 (by decide) (by decide) (by decide) (by decide) (by decide), Y 22 (by decide) (by decide) (by decide) (by decide) (by decide)]; exact sc
  · rw [s3 15 (by decide)]; exact hn a b a1 a2 b1 b2 a3 b3 sm sc nw
  · obtain ⟨T, t1, t2, t3⟩ := bx
    refine ⟨T, t1, (s2 20 (by decide) (by decide) (by decide)).trans t2, fun i hi => ?_⟩
    rw [X 16 (by decide) (by decide) (by decide) (by decide), Y 36 (by decide) (by decide) (by decide) (by decide) (by decide), Y 37 (by decide) (by decide) (by decide) (by decide) (by decide)]
    exact t3 i hi
theorem setNB {x y : Nat → Int32} {i k n : Nat} {z : Int32} (h : x k = y k ∧ NBx n (x k)) (hz : NBx n z) : upd x i z k = upd y i z k ∧ NBx n (upd x i z k) := by
  by_cases e : k = i
  · rw [e, pk_us, pk_us]; exact ⟨rfl, hz⟩
  · rw [pk_un e, pk_un e]; exact h
theorem NWR.set {D a b c o : Nat} {x y : Nat → Int32} {z : Int32} (h : NWR D a b x y) (ha : a ≤ 6) (hb : b ≤ 6) (ho : o = 12 ∨ o = 18 ∨ o = 24 ∨ o = 30) (hc : c < b) (hz : NBx 99 z) : NWR D a b (upd x (o + c) z) (upd y (o + c) z) := by
  obtain ⟨h1, h2, ⟨T, t1, t2, t3⟩, h4, h5, h6⟩ := h
  refine ⟨fun m hm => ?_, fun k hk => ?_, ⟨T, t1, ?_, fun k hk => ?_⟩, ?_, ?_, fun m m' hm hm' => ?_⟩
  · rw [pk_un (by omega), pk_un (by omega), pk_un (by omega), pk_un (by omega)]; exact h1 m hm
  · obtain ⟨q1, q2, q3, q4⟩ := h2 k hk
    exact ⟨setNB q1 hz, setNB q2 hz, setNB q3 hz, setNB q4 hz⟩
  · rw [pk_un (by omega)]; exact t2
  · rw [pk_un (by omega)]; exact t3 k hk
  · rw [pk_un (by omega), pk_un (by omega)]; exact h4
  · rw [pk_un (by omega), pk_un (by omega)]; exact h5
  · rw [pk_un (by omega), pk_un (by omega)]; exact h6 m m' hm hm'
theorem NWR.wear {D a b m : Nat} {x y : Nat → Int32} {z : Int32} (h : NWR D a b x y) (ha : a ≤ 6) (hb : b ≤ 6) (hm : m < a) (hz : z = -1 ∨ ((∃ c, c < b ∧ z = nI c) ∧ ∀ m', m' < a → m' ≠ m → ¬ x (6 + m') = z)) : NWR D a b (upd x (6 + m) z) (upd y (6 + m) z) := by
  obtain ⟨h1, h2, ⟨T, t1, t2, t3⟩, h4, h5, h6⟩ := h
  refine ⟨fun k hk => ?_, fun k hk => ?_, ⟨T, t1, ?_, fun k hk => ?_⟩, ?_, ?_, fun k k' hk hk' => ?_⟩
  · obtain ⟨q1, q2, q3, q4⟩ := h1 k hk
    rw [pk_un (show k ≠ 6 + m by omega), pk_un (show k ≠ 6 + m by omega)]
    by_cases e : k = m
    · rw [e, pk_us, pk_us]
      rw [e] at q1 q2
      exact ⟨q1, q2, rfl, hz.imp id (fun q => q.1)⟩
    · rw [pk_un (show 6 + k ≠ 6 + m by omega), pk_un (show 6 + k ≠ 6 + m by omega)]
      exact ⟨q1, q2, q3, q4⟩
  · rw [pk_un (by omega), pk_un (by omega), pk_un (by omega), pk_un (by omega), pk_un (by omega), pk_un (by omega), pk_un (by omega), pk_un (by omega)]; exact h2 k hk
  · rw [pk_un (by omega)]; exact t2
  · rw [pk_un (by omega)]; exact t3 k hk
  · rw [pk_un (by omega), pk_un (by omega)]; exact h4
  · rw [pk_un (by omega), pk_un (by omega)]; exact h5
  · by_cases e : k = m
    · by_cases e' : k' = m
      · intro _ _; omega
      · rw [e, pk_us, pk_un (show 6 + k' ≠ 6 + m by omega)]
        intro q1 q2
        rcases hz with hz | ⟨_, hz⟩
        · exact absurd hz q2
        · exact absurd q1.symm (hz k' hk' e')
    · rw [pk_un (show 6 + k ≠ 6 + m by omega)]
      by_cases e' : k' = m
      · rw [e', pk_us]
        intro q1 q2
        rcases hz with hz | ⟨_, hz⟩
        · rw [hz] at q1; exact absurd q1 q2
        · exact absurd q1 (hz k hk e)
      · rw [pk_un (show 6 + k' ≠ 6 + m by omega)]
        exact h6 k k' hk hk'
theorem bitT : ∀ T, T < 64 → ∀ c, c < 6 → ((nI T >>> (nI c &&& 31)) &&& 1 = nI (T / 2 ^ c % 2)) ∧ (T / 2 ^ c % 2 = 0 → nI T ||| ((1 : Int32) <<< (nI c &&& 31)) = nI (T + 2 ^ c) ∧ T + 2 ^ c < 64 ∧ ∀ k, k < 6 → (T + 2 ^ c) / 2 ^ k % 2 = if k = c then 1 else T / 2 ^ k % 2) := by decide +kernel
theorem NWR.turn {D a b c T : Nat} {x y : Nat → Int32} (h : NWR D a b x y) (ha : a ≤ 6) (hb : b ≤ 6) (hc : c < b) (hT : T < 64) (hy : y 36 = nI T) (h0 : T / 2 ^ c % 2 = 0) : NWR D a b (upd x (36 + c) 1) (upd y 36 (nI (T + 2 ^ c))) := by
  obtain ⟨h1, h2, ⟨T', t1, t2, t3⟩, h4, h5, h6⟩ := h
  have eT : T' = T := (nI_eq (by omega) (by omega)).mp (t2.symm.trans hy)
  subst eT
  obtain ⟨_, q⟩ := bitT T' t1 c (by omega)
  obtain ⟨_, q2, q3⟩ := q h0
  refine ⟨fun m hm => ?_, fun k hk => ?_, ⟨T' + 2 ^ c, q2, pk_us, fun k hk => ?_⟩, ?_, ?_, fun m m' hm hm' => ?_⟩
  · rw [pk_un (by omega), pk_un (by omega), pk_un (by omega), pk_un (by omega)]; exact h1 m hm
  · rw [pk_un (by omega), pk_un (by omega), pk_un (by omega), pk_un (by omega), pk_un (by omega), pk_un (by omega), pk_un (by omega), pk_un (by omega)]; exact h2 k hk
  · rw [q3 k (by omega)]
    by_cases e : k = c
    · rw [e, pk_us, if_pos rfl]; rfl
    · rw [pk_un (by omega), if_neg e]; exact t3 k hk
  · rw [pk_un (by omega), pk_un (by omega)]; exact h4
  · rw [pk_un (by omega), pk_un (by omega)]; exact h5
  · rw [pk_un (by omega), pk_un (by omega)]; exact h6 m m' hm hm'
theorem xWearer {a : Nat} {q : Int32} (h : v 31 = nI a) (ha : a ≤ 6) : (∃ m, m < a ∧ f 15 (6 + m) = q ∧ gsX_X1_wearer_1 NF q v f = nI m) ∨ ((∀ m, m < a → ¬ f 15 (6 + m) = q) ∧ gsX_X1_wearer_1 NF q v f = -1) := by
  refine lpQ (S := Unit) (fun fu i _ => gsX_X1_wearer_1_L1 NF q v f fu i) (fun r => (∃ m, m < a ∧ f 15 (6 + m) = q ∧ r = nI m) ∨ ((∀ m, m < a → ¬ f 15 (6 + m) = q) ∧ r = -1)) (fun j _ => ∀ m, m < j → ¬ f 15 (6 + m) = q) a ?_ ?_ a 0 (4294967296 + NF) () (by omega) (by omega) (fun m hm => absurd hm (Nat.not_lt_zero _))
  · intro fu j s hj hs
    have e : gsX_X1_wearer_1_L1 NF q v f (fu + 1) (nI j) = (if f 15 (6 + j) = q then nI j else gsX_X1_wearer_1_L1 NF q v f fu (nI (j + 1))) := by
      simp only [gsX_X1_wearer_1_L1, h]
      rw [if_neg (show ¬ nI a ≤ nI j from nI_ge hj (by omega)), xWears1 h ha hj, nI_1]
    by_cases c : f 15 (6 + j) = q
    · rw [if_pos c] at e
      exact Or.inr (Or.inl ⟨j, hj, c, e⟩)
    · rw [if_neg c] at e
      refine Or.inl ⟨(), fun m hm => ?_, e⟩
      by_cases em : m = j
      · rw [em]; exact c
      · exact hs m (by omega)
  · intro fu s hs
    refine Or.inr ⟨hs, ?_⟩
    show gsX_X1_wearer_1_L1 NF q v f (fu + 1) (nI a) = -1
    simp only [gsX_X1_wearer_1_L1, h]
    rw [if_pos (nI_le (Nat.le_refl _) (by omega))]
theorem yWearer {a : Nat} {q : Int32} (h : v1 24 = nI a) (ha : a ≤ 6) : (∃ m, m < a ∧ f1 24 (6 + m) = q ∧ gsY_X11_wearer_1 NF q v1 f1 w1 g = nI m) ∨ ((∀ m, m < a → ¬ f1 24 (6 + m) = q) ∧ gsY_X11_wearer_1 NF q v1 f1 w1 g = -1) := by
  refine lpQ (S := Int32) (fun fu i s => gsY_X11_wearer_1_L1 NF q v1 f1 fu s i) (fun r => (∃ m, m < a ∧ f1 24 (6 + m) = q ∧ r = nI m) ∨ ((∀ m, m < a → ¬ f1 24 (6 + m) = q) ∧ r = -1)) (fun j s => (∃ m, m < j ∧ f1 24 (6 + m) = q ∧ s = nI m) ∨ ((∀ m, m < j → ¬ f1 24 (6 + m) = q) ∧ s = -1)) a ?_ ?_ a 0 (4294967296 + NF) (-1) (by omega) (by omega) (Or.inr ⟨fun m hm => absurd hm (Nat.not_lt_zero _), rfl⟩)
  · intro fu j s hj hs
    have e : gsY_X11_wearer_1_L1 NF q v1 f1 (fu + 1) s (nI j) = (if f1 24 (6 + j) = q then gsY_X11_wearer_1_L1 NF q v1 f1 fu (nI j) (nI (j + 1)) else gsY_X11_wearer_1_L1 NF q v1 f1 fu s (nI (j + 1))) := by
      simp only [gsY_X11_wearer_1_L1, h]
      rw [if_neg (show ¬ nI a ≤ nI j from nI_ge hj (by omega)), show (6 : Int32) + nI j = nI (6 + j) from nI_add 6 j, nI_clamp (by omega), nI_1]
    by_cases c : f1 24 (6 + j) = q
    · rw [if_pos c] at e
      exact Or.inl ⟨nI j, Or.inl ⟨j, by omega, c, rfl⟩, e⟩
    · rw [if_neg c] at e
      refine Or.inl ⟨s, ?_, e⟩
      rcases hs with ⟨m, hm, q1, q2⟩ | ⟨q1, q2⟩
      · exact Or.inl ⟨m, by omega, q1, q2⟩
      · refine Or.inr ⟨fun m hm => ?_, q2⟩
        by_cases em : m = j
        · rw [em]; exact c
        · exact q1 m (by omega)
  · intro fu s hs
    have e : gsY_X11_wearer_1_L1 NF q v1 f1 (fu + 1) s (nI a) = s := by
      simp only [gsY_X11_wearer_1_L1, h]
      rw [if_pos (nI_le (Nat.le_refl _) (by omega))]
    show (∃ m, m < a ∧ f1 24 (6 + m) = q ∧ gsY_X11_wearer_1_L1 NF q v1 f1 (fu + 1) s (nI a) = nI m) ∨ ((∀ m, m < a → ¬ f1 24 (6 + m) = q) ∧ gsY_X11_wearer_1_L1 NF q v1 f1 (fu + 1) s (nI a) = -1)
    rw [e]
    exact hs
theorem m1_lt : (-1 : Int32) < 0 := by decide
theorem nI_nm1 {n : Nat} (h : n < 2 ^ 31) : ¬ nI n = -1 := fun z => by
  have z' := congrArg Int32.toInt z
  rw [nI_toInt h] at z'
  have : (-1 : Int32).toInt = -1 := by decide
  omega
section
variable {r r' : Int32} {u : (Nat → Int32) × (Nat → Nat → Int32)} {u' : (Nat → Int32) × (Nat → Nat → Int32) × Int64 × (Nat → Int64)}
theorem FREL.don {p1 p2 : Int32} (h : FREL v f v1 f1) (e : gsX_X10_don_1 NF p1 p2 v f = (r, u)) (e' : gsY_X11_don_1 NF p1 p2 v1 f1 w1 g = (r', u')) : r = r' ∧ FREL u.1 u.2 u'.1 u'.2.1 := by
  have hh := h
  obtain ⟨hr, a, b, a1, a2, a3, b1, b2, b3, sm, sc, nw, ac, bx⟩ := h
  obtain ⟨A, f1', f2', f3'⟩ := yFill (NF := NF) (V := v1) (F0 := f1) (W := w1) (G := g)
  have hA : FREL v f v1 A := hh.keep (fun _ _ => rfl) (fun _ _ => rfl) (fun _ _ => rfl) (fun k hk => f1' k (kx_ne hk rfl))
  have bad : gsX_X10_don_1 NF p1 p2 v f = (-2, v, f) → gsY_X11_don_1 NF p1 p2 v1 f1 w1 g = (-2, v1, A, w1, g) → r = r' ∧ FREL u.1 u.2 u'.1 u'.2.1 := fun x y => by
    rw [x] at e
    rw [y] at e'
    cases e; cases e'
    exact ⟨rfl, hA⟩
  rcases in_cases p1 a with ⟨m, hm, rfl⟩ | n1
  · have xm := xHasM1 (NF := NF) (F := f) a1 a3 hm
    have ym := yIsM1 (NF := NF) (F1 := A) (W := w1) (G := g) a2 a3 hm
    rcases in_cases p2 b with ⟨c, hc, rfl⟩ | n2
    · have xc := xHasC1 (NF := NF) (F := f) b1 b3 hc
      have yc := yIsC1 (NF := NF) (F1 := A) (W := w1) (G := g) b2 b3 hc
      have hw : ∀ k, k < a → A 24 (6 + k) = f 15 (6 + k) := fun k hk => (f2' (6 + k) (by omega)).trans (nw.1 k hk).2.2.1.symm
      by_cases none : ∀ k, k < a → ¬ f 15 (6 + k) = nI c
      · have xw : gsX_X1_wearer_1 NF (nI c) v f = -1 := by
          rcases xWearer (NF := NF) (f := f) (q := nI c) a1 a3 with ⟨k, k1, k2, _⟩ | ⟨_, q⟩
          · exact absurd k2 (none k k1)
          · exact q
        have yw : gsY_X11_wearer_1 NF (nI c) v1 A w1 g = -1 := by
          rcases yWearer (NF := NF) (f1 := A) (w1 := w1) (g := g) (q := nI c) a2 a3 with ⟨k, k1, k2, _⟩ | ⟨_, q⟩
          · exact absurd ((hw k k1).symm.trans k2) (none k k1)
          · exact q
        rcases hk : gsX_X5_keepAct_1 NF v (upd2 f 15 (upd (f 15) (6 + m) (nI c))) with ⟨V', F'⟩
        rcases ac with ⟨p, d, uu, hp, hdu, h21, h22, h23, h35, rest⟩
        obtain ⟨d', Y, Z, y1, y2, y3, y4, y5, y6, y7⟩ := yAct (NF := NF) (F := A) (W := w1) (G := g) h35 (by omega)
        have eX : gsX_X10_don_1 NF (nI m) (nI c) v f = (f 15 (6 + m), V', F') := by
          simp only [gsX_X10_don_1, xm, xc, xw, ite11, if_true, xWears1 (NF := NF) (F := f) a1 a3 hm, xSetW1 (NF := NF) (F := f) a1 a3 hm, hk]
        have eY : gsY_X11_don_1 NF (nI m) (nI c) v1 f1 w1 g = (Z 23 (6 + m), Y, upd2 Z 23 (upd (Z 23) (6 + m) (nI c)), w1, g) := by
          simp only [gsY_X11_don_1, f3', ym, yc, yw, ite11, if_true, if_pos m1_lt, y1, show (6 : Int32) + nI m = nI (6 + m) from nI_add 6 m, nI_clamp (show 6 + m < 2 ^ 31 by omega)]
        rw [eX] at e
        rw [eY] at e'
        cases e; cases e'
        have z23 : Z 23 = f1 23 := (y5 23 (by decide) (by decide)).trans (f1' 23 (by decide))
        refine ⟨?_, hh.act (F2 := upd2 Z 23 (upd (Z 23) (6 + m) (nI c))) (fun q _ _ h15 => u2n h15) (fun q hq => f1' q hq) hk y1 (fun q _ _ h23 _ => u2n h23) (fun a' b' a1' _ b1' _ a3' b3' _ _ nw' => ?_)⟩
        · rw [z23]; exact (nw.1 m hm).2.2.1
        · have ea : a' = a := (nI_eq (by omega) (by omega)).mp (a1'.symm.trans a1)
          have eb : b' = b := (nI_eq (by omega) (by omega)).mp (b1'.symm.trans b1)
          subst ea eb
          show NWR 999 a' b' (upd (f 15) (6 + m) (nI c)) (upd (Z 23) (6 + m) (nI c))
          rw [z23]
          exact nw'.wear a3' b3' hm (Or.inr ⟨⟨c, hc, rfl⟩, fun k hk _ => none k hk⟩)
      · obtain ⟨k0, hk0, ek0⟩ : ∃ k, k < a ∧ f 15 (6 + k) = nI c := by
          apply Classical.byContradiction
          intro z
          exact none (fun k hk q => z ⟨k, hk, q⟩)
        have xw : ∃ k, k < a ∧ gsX_X1_wearer_1 NF (nI c) v f = nI k := by
          rcases xWearer (NF := NF) (f := f) (q := nI c) a1 a3 with ⟨k, k1, _, k3⟩ | ⟨q, _⟩
          · exact ⟨k, k1, k3⟩
          · exact absurd ek0 (q k0 hk0)
        have yw : ∃ k, k < a ∧ gsY_X11_wearer_1 NF (nI c) v1 A w1 g = nI k := by
          rcases yWearer (NF := NF) (f1 := A) (w1 := w1) (g := g) (q := nI c) a2 a3 with ⟨k, k1, _, k3⟩ | ⟨q, _⟩
          · exact ⟨k, k1, k3⟩
          · exact absurd ((hw k0 hk0).trans ek0) (q k0 hk0)
        obtain ⟨k, k1, k2⟩ := xw
        obtain ⟨k', k1', k2'⟩ := yw
        refine bad ?_ ?_
        · simp only [gsX_X10_don_1, xm, xc, k2, ite11, if_true, if_neg (nI_nm1 (show k < 2 ^ 31 by omega))]
        · simp only [gsY_X11_don_1, f3', ym, yc, k2', ite11, if_true, if_neg (nI_pos (show k' < 2 ^ 31 by omega))]
    · refine bad ?_ ?_
      · simp only [gsX_X10_don_1, xm, xHasC0 (NF := NF) (F := f) b1 n2, ite11, if_true, ite01]
      · simp only [gsY_X11_don_1, f3', ym, yIsC0 (NF := NF) (F1 := A) (W := w1) (G := g) b2 b3 n2, ite11, if_true, ite01]
  · refine bad ?_ ?_
    · simp only [gsX_X10_don_1, xHasM0 (NF := NF) (F := f) a1 n1, ite01]
    · simp only [gsY_X11_don_1, f3', yIsM0 (NF := NF) (F1 := A) (W := w1) (G := g) a2 a3 n1, ite01]
theorem FREL.doff {p1 : Int32} (h : FREL v f v1 f1) (e : gsX_X10_doff_1 NF p1 v f = (r, u)) (e' : gsY_X11_doff_1 NF p1 v1 f1 w1 g = (r', u')) : r = r' ∧ FREL u.1 u.2 u'.1 u'.2.1 := by
  have hh := h
  obtain ⟨hr, a, b, a1, a2, a3, b1, b2, b3, sm, sc, nw, ac, bx⟩ := h
  have bad : gsX_X10_doff_1 NF p1 v f = (-1, v, f) → gsY_X11_doff_1 NF p1 v1 f1 w1 g = (-1, v1, f1, w1, g) → r = r' ∧ FREL u.1 u.2 u'.1 u'.2.1 := fun x y => by
    rw [x] at e
    rw [y] at e'
    cases e; cases e'
    exact ⟨rfl, hh⟩
  rcases in_cases p1 a with ⟨m, hm, rfl⟩ | n1
  · have ym := yIsM1 (NF := NF) (F1 := f1) (W := w1) (G := g) a2 a3 hm
    have xw := xWears1 (NF := NF) (F := f) a1 a3 hm
    have s6 : (6 : Int32) + nI m = nI (6 + m) := nI_add 6 m
    have c6 : (nI (6 + m)).toNatClampNeg = 6 + m := nI_clamp (by omega)
    obtain ⟨_, _, q3, q4⟩ := nw.1 m hm
    by_cases z : f 15 (6 + m) = -1
    · refine bad ?_ ?_
      · simp only [gsX_X10_doff_1, xw, if_pos z]
      · simp only [gsY_X11_doff_1, ym, ite11, if_true, s6, c6, ← q3, z, if_neg (show ¬ (0 : Int32) ≤ -1 by decide)]
    · obtain ⟨c, hc, ec⟩ := q4.resolve_left z
      rcases hk : gsX_X5_keepAct_1 NF v (upd2 f 15 (upd (f 15) (6 + m) (-1))) with ⟨V', F'⟩
      rcases ac with ⟨p, d, uu, hp, hdu, h21, h22, h23, h35, rest⟩
      obtain ⟨d', Y, Z, y1, y2, y3, y4, y5, y6, y7⟩ := yAct (NF := NF) (F := f1) (W := w1) (G := g) h35 (by omega)
      have eX : gsX_X10_doff_1 NF (nI m) v f = (f 15 (6 + m), V', F') := by
        simp only [gsX_X10_doff_1, xw, if_neg z, xSetW1 (NF := NF) (F := f) a1 a3 hm, hk]
      have eY : gsY_X11_doff_1 NF (nI m) v1 f1 w1 g = (Z 23 (6 + m), Y, upd2 Z 23 (upd (Z 23) (6 + m) (-1)), w1, g) := by
        simp only [gsY_X11_doff_1, ym, ite11, if_true, s6, c6, if_pos (show (0 : Int32) ≤ f1 23 (6 + m) by rw [← q3, ec]; exact nI_pos' (by omega)), y1]
      rw [eX] at e
      rw [eY] at e'
      cases e; cases e'
      have z23 : Z 23 = f1 23 := y5 23 (by decide) (by decide)
      refine ⟨by rw [z23]; exact q3, hh.act (F2 := upd2 Z 23 (upd (Z 23) (6 + m) (-1))) (fun q _ _ h15 => u2n h15) (fun q _ => rfl) hk y1 (fun q _ _ h23 _ => u2n h23) (fun a' b' a1' _ b1' _ a3' b3' _ _ nw' => ?_)⟩
      have ea : a' = a := (nI_eq (by omega) (by omega)).mp (a1'.symm.trans a1)
      subst ea
      show NWR 999 a' b' (upd (f 15) (6 + m) (-1)) (upd (Z 23) (6 + m) (-1))
      rw [z23]
      exact nw'.wear a3' b3' hm (Or.inl rfl)
  · refine bad ?_ ?_
    · simp only [gsX_X10_doff_1, xWears0 (NF := NF) (F := f) a1 n1, if_true]
    · simp only [gsY_X11_doff_1, yIsM0 (NF := NF) (F1 := f1) (W := w1) (G := g) a2 a3 n1, ite01]
theorem FREL.hem {p1 p2 : Int32} (h : FREL v f v1 f1) (e : gsX_X10_hem_1 NF p1 p2 v f = (r, u)) (e' : gsY_X11_hem_1 NF p1 p2 v1 f1 w1 g = (r', u')) : r = r' ∧ FREL u.1 u.2 u'.1 u'.2.1 := by
  have hh := h
  obtain ⟨hr, a, b, a1, a2, a3, b1, b2, b3, sm, sc, nw, ac, bx⟩ := h
  have bad : gsX_X10_hem_1 NF p1 p2 v f = (-1, v, f) → gsY_X11_hem_1 NF p1 p2 v1 f1 w1 g = (-1, v1, f1, w1, g) → r = r' ∧ FREL u.1 u.2 u'.1 u'.2.1 := fun x y => by
    rw [x] at e
    rw [y] at e'
    cases e; cases e'
    exact ⟨rfl, hh⟩
  rcases in_cases p1 b with ⟨c, hc, rfl⟩ | n1
  · have yc := yIsC1 (NF := NF) (F1 := f1) (W := w1) (G := g) b2 b3 hc
    have xp : gsX_X1_part_1 NF 0 (nI c) v f = f 15 (12 + c) := xPart1 (NF := NF) (F := f) (p := 0) b1 b3 hc (by decide)
    have s12 : (12 : Int32) + nI c = nI (12 + c) := nI_add 12 c
    have c12 : (nI (12 + c)).toNatClampNeg = 12 + c := nI_clamp (by omega)
    obtain ⟨⟨q1, S, hS, q2⟩, _, _, _⟩ := nw.2.1 c hc
    by_cases c1 : p2 < 1
    · refine bad ?_ ?_
      · simp only [gsX_X10_hem_1, if_pos c1]
      · simp only [gsY_X11_hem_1, yc, ite11, if_true, gsY_X11_isIn_1, if_pos c1, ite01]
    · by_cases c2 : p2 ≤ f 15 (12 + c)
      · have nlt : ¬ p2 < 0 := fun z => by
          have z' := (fa_lt _ _).mp z
          have c1' : ¬ p2.toInt < (1 : Int32).toInt := fun q => c1 ((fa_lt _ _).mpr q)
          have z0 : (0 : Int32).toInt = 0 := by decide
          have z1 : (1 : Int32).toInt = 1 := by decide
          omega
        obtain ⟨P, hP, rfl⟩ := nI_of nlt
        rw [q2] at c2
        have hPS : P ≤ S := (nI_leI hP (by omega)).mp c2
        have sub : nI S - nI P = nI (S - P) := nI_subI hPS
        have yn : ¬ nI S < nI P := nI_nlt hPS (by omega)
        rcases hk : gsX_X5_keepAct_1 NF v (upd2 f 15 (upd (f 15) (12 + c) (nI (S - P)))) with ⟨V', F'⟩
        rcases ac with ⟨p, d, uu, hp, hdu, h21, h22, h23, h35, rest⟩
        obtain ⟨d', Y, Z, y1, y2, y3, y4, y5, y6, y7⟩ := yAct (NF := NF) (F := f1) (W := w1) (G := g) h35 (by omega)
        have z23 : Z 23 = f1 23 := y5 23 (by decide) (by decide)
        have xs : gsX_X1_setPart_1 NF 0 (nI c) (nI (S - P)) v f = (v, upd2 f 15 (upd (f 15) (12 + c) (nI (S - P)))) := xSetP1 (NF := NF) (F := f) (p := 0) b1 b3 hc (by decide)
        have eX : gsX_X10_hem_1 NF (nI c) (nI P) v f = (nI (S - P), V', F') := by
          simp only [gsX_X10_hem_1, xp, q2, if_neg c1, if_pos c2, sub, xs, hk]
        have eY : gsY_X11_hem_1 NF (nI c) (nI P) v1 f1 w1 g = (nI (S - P), Y, upd2 Z 23 (upd (Z 23) (12 + c) (nI (S - P))), w1, g) := by
          simp only [gsY_X11_hem_1, yc, ite11, if_true, gsY_X11_isIn_1, if_neg c1, s12, c12, if_neg yn, y1, z23, ← q1, q2, sub]
          rw [u2s, pk_us]
        rw [eX] at e
        rw [eY] at e'
        cases e; cases e'
        refine ⟨rfl, hh.act (F2 := upd2 Z 23 (upd (Z 23) (12 + c) (nI (S - P)))) (fun q _ _ h15 => u2n h15) (fun q _ => rfl) hk y1 (fun q _ _ h23 _ => u2n h23) (fun a' b' a1' _ b1' _ a3' b3' _ _ nw' => ?_)⟩
        have eb : b' = b := (nI_eq (by omega) (by omega)).mp (b1'.symm.trans b1)
        subst eb
        show NWR 999 a' b' (upd (f 15) (12 + c) (nI (S - P))) (upd (Z 23) (12 + c) (nI (S - P)))
        rw [z23]
        exact nw'.set a3' b3' (Or.inl rfl) hc ⟨S - P, by omega, rfl⟩
      · refine bad ?_ ?_
        · simp only [gsX_X10_hem_1, xp, if_neg c1, if_neg c2]
        · have c2' : f1 23 (12 + c) < p2 := by
            rw [← q1]
            refine (fa_lt _ _).mpr ?_
            have z : ¬ p2.toInt ≤ (f 15 (12 + c)).toInt := fun q => c2 ((fa_le _ _).mpr q)
            omega
          simp only [gsY_X11_hem_1, yc, ite11, if_true, gsY_X11_isIn_1, if_neg c1, s12, c12, if_pos c2', ite01]
  · refine bad ?_ ?_
    · simp only [gsX_X10_hem_1, xPart0 (NF := NF) (F := f) b1 n1]
      by_cases c1 : p2 < 1
      · rw [if_pos c1]
      · rw [if_neg c1, if_neg (fun z => c1 ((fa_lt _ _).mpr (by
          have z' := (fa_le _ _).mp z
          have z0 : (0 : Int32).toInt = 0 := by decide
          have z1 : (1 : Int32).toInt = 1 := by decide
          omega)))]
    · simp only [gsY_X11_hem_1, yIsC0 (NF := NF) (F1 := f1) (W := w1) (G := g) b2 b3 n1, ite01]
end
end
end
section
section
variable {NF : Nat} {v : Nat → Int32} {f : Nat → Nat → Int32} {v1 : Nat → Int32} {f1 : Nat → Nat → Int32} {w1 : Int64} {g : Nat → Int64} {r r' : Int32} {u : (Nat → Int32) × (Nat → Nat → Int32)} {u' : (Nat → Int32) × (Nat → Nat → Int32) × Int64 × (Nat → Int64)}
theorem not_lt_one {p : Int32} (h : ¬ p < 1) : ¬ p < 0 := fun z => by
  have z' := (fa_lt _ _).mp z
  have c1' : ¬ p.toInt < (1 : Int32).toInt := fun q => h ((fa_lt _ _).mpr q)
  have z0 : (0 : Int32).toInt = 0 := by decide
  have z1 : (1 : Int32).toInt = 1 := by decide
  omega
theorem lt_of_nle {p q : Int32} (h : ¬ p ≤ q) : q < p := (fa_lt _ _).mpr (by
  have z : ¬ p.toInt ≤ q.toInt := fun z => h ((fa_le _ _).mpr z)
  omega)
theorem nle0 {p : Int32} (h : ¬ p < 1) : ¬ p ≤ 0 := fun z => h ((fa_lt _ _).mpr (by
  have z' := (fa_le _ _).mp z
  have z0 : (0 : Int32).toInt = 0 := by decide
  have z1 : (1 : Int32).toInt = 1 := by decide
  omega))
theorem nI_sub_neg (a b : Nat) : nI a - -nI b = nI (a + b) := by
  rw [Int32.sub_eq_add_neg, Int32.neg_neg, nI_add]
theorem nI_add_neg {a b : Nat} (h : b ≤ a) : nI a + -nI b = nI (a - b) := by
  rw [← Int32.sub_eq_add_neg, nI_subI h]
theorem FREL.letout {p1 p2 : Int32} (h : FREL v f v1 f1) (e : gsX_X10_letout_1 NF p1 p2 v f = (r, u)) (e' : gsY_X11_letout_1 NF p1 p2 v1 f1 w1 g = (r', u')) : r = r' ∧ FREL u.1 u.2 u'.1 u'.2.1 := by
  have hh := h
  obtain ⟨hr, a, b, a1, a2, a3, b1, b2, b3, sm, sc, nw, ac, bx⟩ := h
  have bad : gsX_X10_letout_1 NF p1 p2 v f = (-1, v, f) → gsY_X11_letout_1 NF p1 p2 v1 f1 w1 g = (-1, v1, f1, w1, g) → r = r' ∧ FREL u.1 u.2 u'.1 u'.2.1 := fun x y => by
    rw [x] at e
    rw [y] at e'
    cases e; cases e'
    exact ⟨rfl, hh⟩
  rcases in_cases p1 b with ⟨c, hc, rfl⟩ | n1
  · have yc := yIsC1 (NF := NF) (F1 := f1) (W := w1) (G := g) b2 b3 hc
    have xw : gsX_X1_part_1 NF 1 (nI c) v f = f 15 (18 + c) := xPart1 (NF := NF) (F := f) (p := 1) b1 b3 hc (by decide)
    have xs : gsX_X1_part_1 NF 2 (nI c) v f = f 15 (24 + c) := xPart1 (NF := NF) (F := f) (p := 2) b1 b3 hc (by decide)
    have s18 : (18 : Int32) + nI c = nI (18 + c) := nI_add 18 c
    have s24 : (24 : Int32) + nI c = nI (24 + c) := nI_add 24 c
    have c18 : (nI (18 + c)).toNatClampNeg = 18 + c := nI_clamp (by omega)
    have c24 : (nI (24 + c)).toNatClampNeg = 24 + c := nI_clamp (by omega)
    obtain ⟨_, ⟨w1e, W, hW, w2e⟩, ⟨s1e, S, hS, s2e⟩, _⟩ := nw.2.1 c hc
    by_cases c1 : p2 < 1
    · refine bad ?_ ?_
      · simp only [gsX_X10_letout_1, if_pos c1]
      · simp only [gsY_X11_letout_1, yc, ite11, if_true, gsY_X11_isIn_1, if_pos c1, ite01]
    · obtain ⟨P, hP, rfl⟩ := nI_of (not_lt_one c1)
      by_cases c2 : P ≤ S
      · have x2 : nI P ≤ nI S := nI_le c2 (by omega)
        have y2 : ¬ nI S < nI P := nI_nlt c2 (by omega)
        by_cases c3 : W + P ≤ 99
        · have y3 : nI (W + P) ≤ (99 : Int32) := nI_le (b := 99) c3 (by decide)
          have x3 : ¬ (99 : Int32) < nI (W + P) := nI_nlt (a := 99) (b := W + P) (by omega) (by decide)
          have x4 : nI (S - P) ≤ (99 : Int32) := nI_le (b := 99) (by omega) (by decide)
          rcases hk : gsX_X5_keepAct_1 NF v (upd2 f 15 (upd (upd (f 15) (18 + c) (nI (W + P))) (24 + c) (nI (S - P)))) with ⟨V', F'⟩
          rcases ac with ⟨p, d, uu, hp, hdu, h21, h22, h23, h35, rest⟩
          obtain ⟨d', Y, Z, y1, yy2, yy3, y4, y5, y6, y7⟩ := yAct (NF := NF) (F := f1) (W := w1) (G := g) h35 (by omega)
          have z23 : Z 23 = f1 23 := y5 23 (by decide) (by decide)
          have t1 : gsX_X1_setPart_1 NF 1 (nI c) (nI (W + P)) v f = (v, upd2 f 15 (upd (f 15) (18 + c) (nI (W + P)))) := xSetP1 (NF := NF) (F := f) (p := 1) b1 b3 hc (by decide)
          have t2 : gsX_X1_setPart_1 NF 2 (nI c) (nI (S - P)) v (upd2 f 15 (upd (f 15) (18 + c) (nI (W + P)))) = (v, upd2 f 15 (upd (upd (f 15) (18 + c) (nI (W + P))) (24 + c) (nI (S - P)))) := (xSetP1 (NF := NF) (F := upd2 f 15 (upd (f 15) (18 + c) (nI (W + P)))) (p := 2) b1 b3 hc (by decide)).trans (by rw [upd2_2]; rfl)
          have eW : gsX_X10_widen_1 NF (nI c) (nI P) v f = (nI (W + P), V', F') := by
            have q1 : nI W + (nI P) = nI (W + P) := nI_add _ _
            have q2 : nI S - (nI P) = nI (S - P) := nI_subI c2
            simp only [gsX_X10_widen_1, xw, xs, w2e, s2e, q1, q2, if_neg x3, if_pos x4, t1, t2, hk]
          have eX : gsX_X10_letout_1 NF (nI c) (nI P) v f = (nI (W + P), V', F') := by
            simp only [gsX_X10_letout_1, if_neg c1, xs, s2e, if_pos x2, eW]
          have eY : gsY_X11_letout_1 NF (nI c) (nI P) v1 f1 w1 g = (nI (W + P), Y, upd2 Z 23 (upd (upd (Z 23) (24 + c) (nI (S - P))) (18 + c) (nI (W + P))), w1, g) := by
            have k1 : nI S - nI P = nI (S - P) := nI_subI c2
            have k2 : nI W + nI P = nI (W + P) := nI_add _ _
            have kk : nI W + nI P = nI (W + P) := nI_add _ _
            have u1 : ∀ (X : Nat → Int32) (z : Int32), upd X (24 + c) z (18 + c) = X (18 + c) := fun X z => pk_un (by omega)
            simp only [gsY_X11_letout_1, yc, ite11, if_true, gsY_X11_isIn_1, if_neg c1, s18, s24, c18, c24, ← w1e, ← s1e, w2e, s2e, if_neg y2, kk, if_pos y3, y1, z23, u2s, u1, k1, k2, upd2_2, pk_us]
          rw [eX] at e
          rw [eY] at e'
          cases e; cases e'
          refine ⟨rfl, hh.act (F2 := upd2 Z 23 (upd (upd (Z 23) (24 + c) (nI (S - P))) (18 + c) (nI (W + P)))) (fun q _ _ h15 => u2n h15) (fun q _ => rfl) hk y1 (fun q _ _ h23 _ => u2n h23) (fun a' b' a1' _ b1' _ a3' b3' _ _ nw' => ?_)⟩
          have eb : b' = b := (nI_eq (by omega) (by omega)).mp (b1'.symm.trans b1)
          subst eb
          show NWR 999 a' b' (upd (upd (f 15) (18 + c) (nI (W + P))) (24 + c) (nI (S - P))) (upd (upd (Z 23) (24 + c) (nI (S - P))) (18 + c) (nI (W + P)))
          rw [z23, upd_comm (v := f1 23) (show 24 + c ≠ 18 + c by omega)]
          exact (nw'.set a3' b3' (Or.inr (Or.inl rfl)) hc ⟨_, by omega, rfl⟩).set a3' b3' (Or.inr (Or.inr (Or.inl rfl))) hc ⟨_, by omega, rfl⟩
        · refine bad ?_ ?_
          · have eW : gsX_X10_widen_1 NF (nI c) (nI P) v f = (-1, v, f) := by
              have q1 : nI W + (nI P) = nI (W + P) := nI_add _ _
              have q2 : nI S - (nI P) = nI (S - P) := nI_subI c2
              simp only [gsX_X10_widen_1, xw, xs, w2e, s2e, q1, q2]
              rw [if_pos (show (99 : Int32) < nI (W + P) from nI_lt (a := 99) (by omega) (by omega))]
            simp only [gsX_X10_letout_1, if_neg c1, xs, s2e, if_pos x2, eW]
          · have kk : nI W + nI P = nI (W + P) := nI_add _ _
            have y3 : ¬ nI (W + P) ≤ (99 : Int32) := nI_ge (a := 99) (by omega) (by omega)
            simp only [gsY_X11_letout_1, yc, ite11, if_true, gsY_X11_isIn_1, if_neg c1, s18, s24, c18, c24, ← w1e, ← s1e, w2e, s2e, if_neg y2, kk, if_neg y3]
      · have x2 : ¬ nI P ≤ nI S := nI_ge (by omega) hP
        have y2 : nI S < nI P := nI_lt (by omega) hP
        refine bad ?_ ?_
        · simp only [gsX_X10_letout_1, if_neg c1, xs, s2e, if_neg x2]
        · simp only [gsY_X11_letout_1, yc, ite11, if_true, gsY_X11_isIn_1, if_neg c1, s18, s24, c18, c24, ← w1e, ← s1e, w2e, s2e, if_pos y2, ite01]
  · refine bad ?_ ?_
    · simp only [gsX_X10_letout_1, xPart0 (NF := NF) (F := f) b1 n1]
      by_cases c1 : p2 < 1
      · rw [if_pos c1]
      · rw [if_neg c1, if_neg (nle0 c1)]
    · simp only [gsY_X11_letout_1, yIsC0 (NF := NF) (F1 := f1) (W := w1) (G := g) b2 b3 n1, ite01]
theorem FREL.takein {p1 p2 : Int32} (h : FREL v f v1 f1) (e : gsX_X10_takein_1 NF p1 p2 v f = (r, u)) (e' : gsY_X11_takein_1 NF p1 p2 v1 f1 w1 g = (r', u')) : r = r' ∧ FREL u.1 u.2 u'.1 u'.2.1 := by
  have hh := h
  obtain ⟨hr, a, b, a1, a2, a3, b1, b2, b3, sm, sc, nw, ac, bx⟩ := h
  have bad : gsX_X10_takein_1 NF p1 p2 v f = (-1, v, f) → gsY_X11_takein_1 NF p1 p2 v1 f1 w1 g = (-1, v1, f1, w1, g) → r = r' ∧ FREL u.1 u.2 u'.1 u'.2.1 := fun x y => by
    rw [x] at e
    rw [y] at e'
    cases e; cases e'
    exact ⟨rfl, hh⟩
  rcases in_cases p1 b with ⟨c, hc, rfl⟩ | n1
  · have yc := yIsC1 (NF := NF) (F1 := f1) (W := w1) (G := g) b2 b3 hc
    have xw : gsX_X1_part_1 NF 1 (nI c) v f = f 15 (18 + c) := xPart1 (NF := NF) (F := f) (p := 1) b1 b3 hc (by decide)
    have xs : gsX_X1_part_1 NF 2 (nI c) v f = f 15 (24 + c) := xPart1 (NF := NF) (F := f) (p := 2) b1 b3 hc (by decide)
    have s18 : (18 : Int32) + nI c = nI (18 + c) := nI_add 18 c
    have s24 : (24 : Int32) + nI c = nI (24 + c) := nI_add 24 c
    have c18 : (nI (18 + c)).toNatClampNeg = 18 + c := nI_clamp (by omega)
    have c24 : (nI (24 + c)).toNatClampNeg = 24 + c := nI_clamp (by omega)
    obtain ⟨_, ⟨w1e, W, hW, w2e⟩, ⟨s1e, S, hS, s2e⟩, _⟩ := nw.2.1 c hc
    by_cases c1 : p2 < 1
    · refine bad ?_ ?_
      · simp only [gsX_X10_takein_1, if_pos c1]
      · simp only [gsY_X11_takein_1, yc, ite11, if_true, gsY_X11_isIn_1, if_pos c1, ite01]
    · obtain ⟨P, hP, rfl⟩ := nI_of (not_lt_one c1)
      by_cases c2 : P ≤ W
      · have x2 : nI P ≤ nI W := nI_le c2 (by omega)
        have y2 : ¬ nI W < nI P := nI_nlt c2 (by omega)
        by_cases c3 : S + P ≤ 99
        · have y3 : nI (S + P) ≤ (99 : Int32) := nI_le (b := 99) c3 (by decide)
          have x3 : ¬ (99 : Int32) < nI (W - P) := nI_nlt (a := 99) (b := W - P) (by omega) (by decide)
          have x4 : nI (S + P) ≤ (99 : Int32) := nI_le (b := 99) (by omega) (by decide)
          rcases hk : gsX_X5_keepAct_1 NF v (upd2 f 15 (upd (upd (f 15) (18 + c) (nI (W - P))) (24 + c) (nI (S + P)))) with ⟨V', F'⟩
          rcases ac with ⟨p, d, uu, hp, hdu, h21, h22, h23, h35, rest⟩
          obtain ⟨d', Y, Z, y1, yy2, yy3, y4, y5, y6, y7⟩ := yAct (NF := NF) (F := f1) (W := w1) (G := g) h35 (by omega)
          have z23 : Z 23 = f1 23 := y5 23 (by decide) (by decide)
          have t1 : gsX_X1_setPart_1 NF 1 (nI c) (nI (W - P)) v f = (v, upd2 f 15 (upd (f 15) (18 + c) (nI (W - P)))) := xSetP1 (NF := NF) (F := f) (p := 1) b1 b3 hc (by decide)
          have t2 : gsX_X1_setPart_1 NF 2 (nI c) (nI (S + P)) v (upd2 f 15 (upd (f 15) (18 + c) (nI (W - P)))) = (v, upd2 f 15 (upd (upd (f 15) (18 + c) (nI (W - P))) (24 + c) (nI (S + P)))) := (xSetP1 (NF := NF) (F := upd2 f 15 (upd (f 15) (18 + c) (nI (W - P)))) (p := 2) b1 b3 hc (by decide)).trans (by rw [upd2_2]; rfl)
          have eW : gsX_X10_widen_1 NF (nI c) (-nI P) v f = (nI (W - P), V', F') := by
            have q1 : nI W + (-nI P) = nI (W - P) := nI_add_neg c2
            have q2 : nI S - (-nI P) = nI (S + P) := nI_sub_neg _ _
            simp only [gsX_X10_widen_1, xw, xs, w2e, s2e, q1, q2, if_neg x3, if_pos x4, t1, t2, hk]
          have eX : gsX_X10_takein_1 NF (nI c) (nI P) v f = (nI (W - P), V', F') := by
            simp only [gsX_X10_takein_1, if_neg c1, xw, w2e, if_pos x2, eW]
          have eY : gsY_X11_takein_1 NF (nI c) (nI P) v1 f1 w1 g = (nI (W - P), Y, upd2 Z 23 (upd (upd (Z 23) (24 + c) (nI (S + P))) (18 + c) (nI (W - P))), w1, g) := by
            have k1 : nI W - nI P = nI (W - P) := nI_subI c2
            have k2 : nI S + nI P = nI (S + P) := nI_add _ _
            have kk : nI S + nI P = nI (S + P) := nI_add _ _
            have u1 : ∀ (X : Nat → Int32) (z : Int32), upd X (24 + c) z (18 + c) = X (18 + c) := fun X z => pk_un (by omega)
            simp only [gsY_X11_takein_1, yc, ite11, if_true, gsY_X11_isIn_1, if_neg c1, s18, s24, c18, c24, ← w1e, ← s1e, w2e, s2e, if_neg y2, kk, if_pos y3, y1, z23, u2s, u1, k1, k2, upd2_2, pk_us]
          rw [eX] at e
          rw [eY] at e'
          cases e; cases e'
          refine ⟨rfl, hh.act (F2 := upd2 Z 23 (upd (upd (Z 23) (24 + c) (nI (S + P))) (18 + c) (nI (W - P)))) (fun q _ _ h15 => u2n h15) (fun q _ => rfl) hk y1 (fun q _ _ h23 _ => u2n h23) (fun a' b' a1' _ b1' _ a3' b3' _ _ nw' => ?_)⟩
          have eb : b' = b := (nI_eq (by omega) (by omega)).mp (b1'.symm.trans b1)
          subst eb
          show NWR 999 a' b' (upd (upd (f 15) (18 + c) (nI (W - P))) (24 + c) (nI (S + P))) (upd (upd (Z 23) (24 + c) (nI (S + P))) (18 + c) (nI (W - P)))
          rw [z23, upd_comm (v := f1 23) (show 24 + c ≠ 18 + c by omega)]
          exact (nw'.set a3' b3' (Or.inr (Or.inl rfl)) hc ⟨_, by omega, rfl⟩).set a3' b3' (Or.inr (Or.inr (Or.inl rfl))) hc ⟨_, by omega, rfl⟩
        · refine bad ?_ ?_
          · have eW : gsX_X10_widen_1 NF (nI c) (-nI P) v f = (-1, v, f) := by
              have q1 : nI W + (-nI P) = nI (W - P) := nI_add_neg c2
              have q2 : nI S - (-nI P) = nI (S + P) := nI_sub_neg _ _
              simp only [gsX_X10_widen_1, xw, xs, w2e, s2e, q1, q2]
              rw [if_neg (show ¬ (99 : Int32) < nI (W - P) from nI_nlt (a := 99) (by omega) (by decide)), if_neg (show ¬ nI (S + P) ≤ (99 : Int32) from nI_ge (a := 99) (by omega) (by omega))]
            simp only [gsX_X10_takein_1, if_neg c1, xw, w2e, if_pos x2, eW]
          · have kk : nI S + nI P = nI (S + P) := nI_add _ _
            have y3 : ¬ nI (S + P) ≤ (99 : Int32) := nI_ge (a := 99) (by omega) (by omega)
            simp only [gsY_X11_takein_1, yc, ite11, if_true, gsY_X11_isIn_1, if_neg c1, s18, s24, c18, c24, ← w1e, ← s1e, w2e, s2e, if_neg y2, kk, if_neg y3]
      · have x2 : ¬ nI P ≤ nI W := nI_ge (by omega) hP
        have y2 : nI W < nI P := nI_lt (by omega) hP
        refine bad ?_ ?_
        · simp only [gsX_X10_takein_1, if_neg c1, xw, w2e, if_neg x2]
        · simp only [gsY_X11_takein_1, yc, ite11, if_true, gsY_X11_isIn_1, if_neg c1, s18, s24, c18, c24, ← w1e, ← s1e, w2e, s2e, if_pos y2, ite01]
  · refine bad ?_ ?_
    · simp only [gsX_X10_takein_1, xPart0 (NF := NF) (F := f) b1 n1]
      by_cases c1 : p2 < 1
      · rw [if_pos c1]
      · rw [if_neg c1, if_neg (nle0 c1)]
    · simp only [gsY_X11_takein_1, yIsC0 (NF := NF) (F1 := f1) (W := w1) (G := g) b2 b3 n1, ite01]
theorem FREL.turn {p1 : Int32} (h : FREL v f v1 f1) (e : gsX_X10_turn_1 NF p1 v f = (r, u)) (e' : gsY_X11_turn_1 NF p1 v1 f1 w1 g = (r', u')) : r = r' ∧ FREL u.1 u.2 u'.1 u'.2.1 := by
  have hh := h
  obtain ⟨hr, a, b, a1, a2, a3, b1, b2, b3, sm, sc, nw, ac, bx⟩ := h
  have bad : gsX_X10_turn_1 NF p1 v f = (-1, v, f) → gsY_X11_turn_1 NF p1 v1 f1 w1 g = (-1, v1, f1, w1, g) → r = r' ∧ FREL u.1 u.2 u'.1 u'.2.1 := fun x y => by
    rw [x] at e
    rw [y] at e'
    cases e; cases e'
    exact ⟨rfl, hh⟩
  rcases in_cases p1 b with ⟨c, hc, rfl⟩ | n1
  · have yc := yIsC1 (NF := NF) (F1 := f1) (W := w1) (G := g) b2 b3 hc
    have xc := xHasC1 (NF := NF) (F := f) b1 b3 hc
    have x4 : gsX_X1_part_1 NF 4 (nI c) v f = f 15 (36 + c) := xPart1 (NF := NF) (F := f) (p := 4) b1 b3 hc (by decide)
    have x3 : gsX_X1_part_1 NF 3 (nI c) v f = f 15 (30 + c) := xPart1 (NF := NF) (F := f) (p := 3) b1 b3 hc (by decide)
    have s30 : (30 : Int32) + nI c = nI (30 + c) := nI_add 30 c
    have c30 : (nI (30 + c)).toNatClampNeg = 30 + c := nI_clamp (by omega)
    obtain ⟨T, hT, t36, tb⟩ := nw.2.2.1
    obtain ⟨B1, B2⟩ := bitT T hT c (by omega)
    have tc := tb c hc
    obtain ⟨_, _, _, ⟨n1e, N, hN, n2e⟩⟩ := nw.2.1 c hc
    by_cases c0 : T / 2 ^ c % 2 = 0
    · obtain ⟨B3, B4, _⟩ := B2 c0
      have z0 : f 15 (36 + c) = 0 := by rw [tc, c0]; rfl
      rcases hk : gsX_X5_keepAct_1 NF v (upd2 f 15 (upd (upd (f 15) (30 + c) 0) (36 + c) 1)) with ⟨V', F'⟩
      rcases ac with ⟨p, d, uu, hp, hdu, h21, h22, h23, h35, rest⟩
      obtain ⟨d', Y, Z, y1, yy2, yy3, y4, y5, y6, y7⟩ := yAct (NF := NF) (F := f1) (W := w1) (G := g) h35 (by omega)
      have z23 : Z 23 = f1 23 := y5 23 (by decide) (by decide)
      have t1 : gsX_X1_setPart_1 NF 3 (nI c) 0 v f = (v, upd2 f 15 (upd (f 15) (30 + c) 0)) := xSetP1 (NF := NF) (F := f) (p := 3) b1 b3 hc (by decide)
      have t2 : gsX_X1_setPart_1 NF 4 (nI c) 1 v (upd2 f 15 (upd (f 15) (30 + c) 0)) = (v, upd2 f 15 (upd (upd (f 15) (30 + c) 0) (36 + c) 1)) := (xSetP1 (NF := NF) (F := upd2 f 15 (upd (f 15) (30 + c) 0)) (p := 4) b1 b3 hc (by decide)).trans (by rw [upd2_2]; rfl)
      have eX : gsX_X10_turn_1 NF (nI c) v f = (f 15 (30 + c), V', F') := by
        simp only [gsX_X10_turn_1, xc, ite11, if_true, x4, z0, if_true, x3, t1, t2, hk]
      have eY : gsY_X11_turn_1 NF (nI c) v1 f1 w1 g = (f1 23 (30 + c), Y, upd2 Z 23 (upd (upd (Z 23) (30 + c) 0) 36 (nI (T + 2 ^ c))), w1, g) := by
        have u1 : ∀ (X : Nat → Int32) (z : Int32), upd X (30 + c) z 36 = X 36 := fun X z => pk_un (by omega)
        simp only [gsY_X11_turn_1, yc, ite11, if_true, cN36, t36, B1, c0]
        rw [if_neg (show ¬ nI 0 = (1 : Int32) by decide)]
        simp only [y1, s30, c30, z23, u2s, u1, t36, B3, upd2_2]
      rw [eX] at e
      rw [eY] at e'
      cases e; cases e'
      refine ⟨n1e, hh.act (F2 := upd2 Z 23 (upd (upd (Z 23) (30 + c) 0) 36 (nI (T + 2 ^ c)))) (fun q _ _ h15 => u2n h15) (fun q _ => rfl) hk y1 (fun q _ _ h23 _ => u2n h23) (fun a' b' a1' _ b1' _ a3' b3' _ _ nw' => ?_)⟩
      have eb : b' = b := (nI_eq (by omega) (by omega)).mp (b1'.symm.trans b1)
      subst eb
      show NWR 999 a' b' (upd (upd (f 15) (30 + c) 0) (36 + c) 1) (upd (upd (Z 23) (30 + c) 0) 36 (nI (T + 2 ^ c)))
      rw [z23]
      exact (nw'.set a3' b3' (Or.inr (Or.inr (Or.inr rfl))) hc ⟨0, by omega, rfl⟩).turn a3' b3' hc hT ((pk_un (by omega)).trans t36) c0
    · have c1 : T / 2 ^ c % 2 = 1 := by omega
      refine bad ?_ ?_
      · simp only [gsX_X10_turn_1, xc, ite11, if_true, x4, tc, c1]
        rw [if_neg (show ¬ nI 1 = (0 : Int32) by decide)]
      · simp only [gsY_X11_turn_1, yc, ite11, if_true, cN36, t36, B1, c1]
        rw [if_pos (show nI 1 = (1 : Int32) from rfl)]
  · refine bad ?_ ?_
    · simp only [gsX_X10_turn_1, xHasC0 (NF := NF) (F := f) b1 n1, ite01]
    · simp only [gsY_X11_turn_1, yIsC0 (NF := NF) (F1 := f1) (W := w1) (G := g) b2 b3 n1, ite01]
end
end
section
section
variable {NF : Nat} {v : Nat → Int32} {f : Nat → Nat → Int32} {v1 : Nat → Int32} {f1 : Nat → Nat → Int32} {w1 : Int64} {g : Nat → Int64} {r r' : Int32} {u : (Nat → Int32) × (Nat → Nat → Int32)} {u' : (Nat → Int32) × (Nat → Nat → Int32) × Int64 × (Nat → Int64)}
theorem yExch {V : Nat → Int32} {F0 : Nat → Nat → Int32} {W : Int64} {G : Nat → Int64} {o : Nat} (ho : o < 100000) : ∃ F' : Nat → Nat → Int32, (∀ q, q ≠ 23 → q ≠ 25 → F' q = F0 q) ∧ (∀ i, ¬ (o ≤ i ∧ i < o + 39) → F' 25 i = F0 25 i) ∧ (∀ k, k < 39 → F' 25 (o + k) = F0 23 k ∧ F' 23 k = F0 25 (o + k)) ∧ gsY_X11_exchange_1 NF (nI o) V F0 W G = (V, F', W, G) := by
  refine lpQ (S := SY) (fun fu i s => gsY_X11_exchange_1_L1 NF (nI o) fu i s.1 s.2.1 s.2.2.1 s.2.2.2) (fun r => ∃ F' : Nat → Nat → Int32, (∀ q, q ≠ 23 → q ≠ 25 → F' q = F0 q) ∧ (∀ i, ¬ (o ≤ i ∧ i < o + 39) → F' 25 i = F0 25 i) ∧ (∀ k, k < 39 → F' 25 (o + k) = F0 23 k ∧ F' 23 k = F0 25 (o + k)) ∧ r = (V, F', W, G)) (fun j s => ∃ F' : Nat → Nat → Int32, s = (V, F', W, G) ∧ (∀ q, q ≠ 23 → q ≠ 25 → F' q = F0 q) ∧ (∀ i, ¬ (o ≤ i ∧ i < o + 39) → F' 25 i = F0 25 i) ∧ (∀ k, k < j → F' 25 (o + k) = F0 23 k ∧ F' 23 k = F0 25 (o + k)) ∧ (∀ k, j ≤ k → k < 39 → F' 25 (o + k) = F0 25 (o + k) ∧ F' 23 k = F0 23 k)) 39 ?_ ?_ 39 0 (4294967296 + NF) (V, F0, W, G) (by omega) (by omega) ⟨F0, rfl, fun q _ _ => rfl, fun i _ => rfl, fun k hk => absurd hk (Nat.not_lt_zero _), fun k _ _ => ⟨rfl, rfl⟩⟩
  · intro fu j s hj hs
    obtain ⟨y, rfl, hF, hO, hK, hL⟩ := hs
    refine Or.inl ⟨(V, upd2 (upd2 y 25 (upd (y 25) (o + j) (y 23 j))) 23 (upd (y 23) j (y 25 (o + j))), W, G), ⟨_, rfl, ?_, ?_, ?_, ?_⟩, ?_⟩
    · intro q h1 h2
      exact (u2n h1).trans ((u2n h2).trans (hF q h1 h2))
    · intro i hi
      show upd (y 25) (o + j) (y 23 j) i = _
      rw [pk_un (by omega)]
      exact hO i hi
    · intro k hk
      show upd (y 25) (o + j) (y 23 j) (o + k) = _ ∧ upd (y 23) j (y 25 (o + j)) k = _
      by_cases e : k = j
      · rw [e, pk_us, pk_us]
        exact ⟨(hL j (Nat.le_refl _) hj).2, (hL j (Nat.le_refl _) hj).1⟩
      · rw [pk_un (by omega), pk_un e]
        exact hK k (by omega)
    · intro k h1 h2
      show upd (y 25) (o + j) (y 23 j) (o + k) = _ ∧ upd (y 23) j (y 25 (o + j)) k = _
      rw [pk_un (by omega), pk_un (by omega)]
      exact hL k (by omega) h2
    · show gsY_X11_exchange_1_L1 NF (nI o) (fu + 1) (nI j) V y W G = gsY_X11_exchange_1_L1 NF (nI o) fu (nI (j + 1)) V _ W G
      simp only [gsY_X11_exchange_1_L1]
      rw [if_neg (show ¬ (39 : Int32) ≤ nI j from lit_nle (b := 39) rfl hj (by decide)), nI_1, nI_add, nI_clamp (show o + j < 2 ^ 31 by omega), nI_clamp (show j < 2 ^ 31 by omega)]
      all_goals rfl
  · intro fu s hs
    obtain ⟨y, rfl, hF, hO, hK, hL⟩ := hs
    refine ⟨y, hF, hO, hK, ?_⟩
    show gsY_X11_exchange_1_L1 NF (nI o) (fu + 1) (nI 39) V y W G = _
    simp only [gsY_X11_exchange_1_L1]
    rw [if_pos (show (39 : Int32) ≤ nI 39 from lit_le (b := 39) rfl (Nat.le_refl _) (by decide))]
theorem xLoad {V : Nat → Int32} {F : Nat → Nat → Int32} {q : Nat} (hq : q < 41) : gsX_X1_loadFrom_1 NF (nI q) V F = (V, upd2 F 15 (va_cpy (F 17) (F 15) (q * 44) 0 44)) := by
  simp only [gsX_X1_loadFrom_1]
  rw [if_neg (show ¬ nI q < (0 : Int32) from nI_pos (by omega)), if_neg (show ¬ (41 : Int32) ≤ nI q from lit_nle (b := 41) rfl hq (by decide)), show nI q * 44 = nI (q * 44) from nI_mulI q 44, nI_clamp (by omega), cN0, show (44 : Int32).toNatClampNeg = 44 from by decide]
theorem m41 {n : Nat} (hn : n < 2 ^ 31) : nI n - nI n / 41 * 41 = nI (n % 41) := nI_modI (b := 41) hn (by decide)
theorem FREL.row {V' : Nat → Int32} {F' : Nat → Nat → Int32} {V1' : Nat → Int32} {F1' : Nat → Nat → Int32} (h : FREL v f v1 f1) (hV : ∀ k, k ≠ 21 → k ≠ 22 → k ≠ 23 → V' k = v k) (hF : ∀ q, q ≠ 15 → q ≠ 17 → F' q = f q) (hV1 : ∀ k, k ≠ 35 → k ≠ 36 → V1' k = v1 k) (hF1 : ∀ q, q ≠ 23 → q ≠ 25 → F1' q = f1 q) (hn : ∀ a b, v 31 = nI a → v 32 = nI b → a ≤ 6 → b ≤ 6 → NWR 999 a b (f 15) (f1 23) → ACT a b v f v1 f1 → BOX a b v f f1 → NWR 999 a b (F' 15) (F1' 23) ∧ ACT a b V' F' V1' F1') : FREL V' F' V1' F1' := by
  obtain ⟨hr, a, b, a1, a2, a3, b1, b2, b3, sm, sc, nw, ac, bx⟩ := h
  obtain ⟨n1, n2⟩ := hn a b a1 b1 a3 b3 nw ac bx
  refine ⟨hr.keep (fun k hk => hV k (kx_ne hk rfl) (kx_ne hk rfl) (kx_ne hk rfl)) (fun k hk => hF k (kx_ne hk rfl) (kx_ne hk rfl)) (fun k hk => hV1 k (kx_ne hk rfl) (kx_ne hk rfl)) (fun k hk => hF1 k (kx_ne hk rfl) (kx_ne hk rfl)), a, b, (hV 31 (by decide) (by decide) (by decide)).trans a1, (hV1 24 (by decide) (by decide)).trans a2, a3, (hV 32 (by decide) (by decide) (by decide)).trans b1, (hV1 25 (by decide) (by decide)).trans b2, b3, ?_, ?_, n1, n2, ?_⟩
  · unfold STM; rw [hF 9 (by decide) (by decide), hF1 16 (by decide) (by decide), hF1 17 (by decide) (by decide), hF1 18 (by decide) (by decide)]; exact sm
  · unfold STC; rw [hF 10 (by decide) (by decide), hF1 19 (by decide) (by decide), hF1 20 (by decide) (by decide), hF1 21 (by decide) (by decide), hF1 22 (by decide) (by decide)]; exact sc
  · unfold BOX; rw [hV 20 (by decide) (by decide) (by decide), hF 16 (by decide) (by decide), hF1 36 (by decide) (by decide), hF1 37 (by decide) (by decide)]; exact bx
theorem FREL.undo (h : FREL v f v1 f1) (e : gsX_X10_undo_1 NF v f = (r, u)) (e' : gsY_X11_undo_1 NF v1 f1 w1 g = (r', u')) : r = r' ∧ FREL u.1 u.2 u'.1 u'.2.1 := by
  have hh := h
  obtain ⟨hr, a, b, a1, a2, a3, b1, b2, b3, sm, sc, nw, ⟨p, d, s, hp, hds, h21, h22, h23, h35, h36, rr, rs, rl⟩, bx⟩ := h
  by_cases c : d = 0
  · subst c
    have eX : gsX_X10_undo_1 NF v f = (0, v, f) := by
      simp only [gsX_X10_undo_1, gsX_X5_stepBack_1, h22, if_pos (show nI 0 = (0 : Int32) from rfl), ite01]
    have eY : gsY_X11_undo_1 NF v1 f1 w1 g = (0, v1, f1, w1, g) := by
      simp only [gsY_X11_undo_1, h35, if_pos (show nI 0 = (0 : Int32) from rfl)]
    rw [eX] at e
    rw [eY] at e'
    cases e; cases e'
    exact ⟨rfl, hh⟩
  · have n0 : ¬ nI d = (0 : Int32) := nI_ne0 (by omega) (by omega)
    have sd : nI d - 1 = nI (d - 1) := nI_subI (b := 1) (by omega)
    obtain ⟨Z, z1, z2, z3, z4⟩ := yExch (NF := NF) (V := upd (upd v1 35 (nI (d - 1))) 36 (nI (s + 1))) (F0 := f1) (W := w1) (G := g) (o := 39 * (d - 1)) (by omega)
    have eX : gsX_X10_undo_1 NF v f = (1, upd (upd v 22 (nI (d - 1))) 23 (nI (s + 1)), upd2 f 15 (va_cpy (f 17) (f 15) ((p + (d - 1)) % 41 * 44) 0 44)) := by
      simp only [gsX_X10_undo_1, gsX_X5_stepBack_1, h21, h22, h23, if_neg n0, sd, nI_1, nI_add, m41 (show p + (d - 1) < 2 ^ 31 by omega), xLoad (NF := NF) (F := f) (show (p + (d - 1)) % 41 < 41 from Nat.mod_lt _ (by decide)), ite11, if_true]
    have eY : gsY_X11_undo_1 NF v1 f1 w1 g = (1, upd (upd v1 35 (nI (d - 1))) 36 (nI (s + 1)), Z, w1, g) := by
      simp only [gsY_X11_undo_1, h35, h36, if_neg n0, sd, nI_1, show (39 : Int32) * nI (d - 1) = nI (39 * (d - 1)) from nI_mulI 39 (d - 1), z4]
    rw [eX] at e
    rw [eY] at e'
    cases e; cases e'
    refine ⟨rfl, hh.row (fun k k1 k2 k3 => (pk_un k3).trans (pk_un k2)) (fun q q1 _ => u2n q1) (fun k k1 k2 => (pk_un k2).trans (pk_un k1)) z1 (fun a' b' a1' b1' a3' b3' nw' ac' _ => ?_)⟩
    have ea : a' = a := (nI_eq (by omega) (by omega)).mp (a1'.symm.trans a1)
    have eb : b' = b := (nI_eq (by omega) (by omega)).mp (b1'.symm.trans b1)
    subst ea eb
    refine ⟨(rr (d - 1) (by omega)).cg a3 b3 (fun k hk => ?_) (fun k hk => (z3 k hk).2), p, d - 1, s + 1, hp, by omega, h21, rfl, rfl, rfl, rfl, fun i hi => ?_, fun i h1 h2 => ?_, fun k hk => ?_⟩
    · exact cpy_from hk
    · refine (rr i (by omega)).cg a3 b3 (fun k hk => rfl) (fun k hk => ?_)
      exact z2 _ (by omega)
    · by_cases ei : i = d - 1
      · subst ei
        refine nw.cg a3 b3 (fun k hk => ?_) (fun k hk => (z3 k hk).1)
        show f 17 ((p + (d - 1) + 1) % 41 * 44 + k) = f 15 k
        rw [show p + (d - 1) + 1 = p + d by omega]
        exact rl k hk
      · refine (rs i (by omega) (by omega)).cg a3 b3 (fun k hk => rfl) (fun k hk => ?_)
        exact z2 _ (by omega)
    · exact (cpy_from hk).symm
theorem FREL.redo (h : FREL v f v1 f1) (e : gsX_X10_redo_1 NF v f = (r, u)) (e' : gsY_X11_redo_1 NF v1 f1 w1 g = (r', u')) : r = r' ∧ FREL u.1 u.2 u'.1 u'.2.1 := by
  have hh := h
  obtain ⟨hr, a, b, a1, a2, a3, b1, b2, b3, sm, sc, nw, ⟨p, d, s, hp, hds, h21, h22, h23, h35, h36, rr, rs, rl⟩, bx⟩ := h
  by_cases c : s = 0
  · subst c
    have eX : gsX_X10_redo_1 NF v f = (0, v, f) := by
      simp only [gsX_X10_redo_1, gsX_X5_stepOn_1, h23, if_pos (show nI 0 = (0 : Int32) from rfl), ite01]
    have eY : gsY_X11_redo_1 NF v1 f1 w1 g = (0, v1, f1, w1, g) := by
      simp only [gsY_X11_redo_1, h36, if_pos (show nI 0 = (0 : Int32) from rfl)]
    rw [eX] at e
    rw [eY] at e'
    cases e; cases e'
    exact ⟨rfl, hh⟩
  · have n0 : ¬ nI s = (0 : Int32) := nI_ne0 (by omega) (by omega)
    have sd : nI s - 1 = nI (s - 1) := nI_subI (b := 1) (by omega)
    obtain ⟨Z, z1, z2, z3, z4⟩ := yExch (NF := NF) (V := v1) (F0 := f1) (W := w1) (G := g) (o := 39 * d) (by omega)
    have eX : gsX_X10_redo_1 NF v f = (1, upd (upd v 22 (nI (d + 1))) 23 (nI (s - 1)), upd2 f 15 (va_cpy (f 17) (f 15) ((p + (d + 1)) % 41 * 44) 0 44)) := by
      simp only [gsX_X10_redo_1, gsX_X5_stepOn_1, h21, h22, h23, if_neg n0, sd, nI_1, nI_add, m41 (show p + (d + 1) < 2 ^ 31 by omega), xLoad (NF := NF) (F := f) (show (p + (d + 1)) % 41 < 41 from Nat.mod_lt _ (by decide)), ite11, if_true]
    have eY : gsY_X11_redo_1 NF v1 f1 w1 g = (1, upd (upd v1 35 (nI (d + 1))) 36 (nI (s - 1)), Z, w1, g) := by
      simp only [gsY_X11_redo_1, h35, h36, if_neg n0, sd, nI_1, show (39 : Int32) * nI d = nI (39 * d) from nI_mulI 39 d, z4]
    rw [eX] at e
    rw [eY] at e'
    cases e; cases e'
    refine ⟨rfl, hh.row (fun k k1 k2 k3 => (pk_un k3).trans (pk_un k2)) (fun q q1 _ => u2n q1) (fun k k1 k2 => (pk_un k2).trans (pk_un k1)) z1 (fun a' b' a1' b1' a3' b3' nw' ac' _ => ?_)⟩
    have ea : a' = a := (nI_eq (by omega) (by omega)).mp (a1'.symm.trans a1)
    have eb : b' = b := (nI_eq (by omega) (by omega)).mp (b1'.symm.trans b1)
    subst ea eb
    refine ⟨(rs d (Nat.le_refl _) (by omega)).cg a3 b3 (fun k hk => ?_) (fun k hk => (z3 k hk).2), p, d + 1, s - 1, hp, by omega, h21, rfl, rfl, rfl, rfl, fun i hi => ?_, fun i h1 h2 => ?_, fun k hk => ?_⟩
    · exact cpy_from hk
    · by_cases ei : i = d
      · subst ei
        exact nw.cg a3 b3 (fun k hk => rl k hk) (fun k hk => (z3 k hk).1)
      · refine (rr i (by omega)).cg a3 b3 (fun k hk => rfl) (fun k hk => ?_)
        exact z2 _ (by omega)
    · refine (rs i (by omega) (by omega)).cg a3 b3 (fun k hk => rfl) (fun k hk => ?_)
      exact z2 _ (by omega)
    · exact (cpy_from hk).symm
end
end
section
section
variable {NF : Nat} {v : Nat → Int32} {f : Nat → Nat → Int32} {v1 : Nat → Int32} {f1 : Nat → Nat → Int32} {w1 : Int64} {g : Nat → Int64} {r r' : Int32} {u : (Nat → Int32) × (Nat → Nat → Int32)} {u' : (Nat → Int32) × (Nat → Nat → Int32) × Int64 × (Nat → Int64)}
theorem bitB : ∀ T, T < 8 → ∀ i, i < 3 → ((nI T >>> (nI i &&& 31)) &&& 1 = nI (T / 2 ^ i % 2)) ∧ nI T ||| ((1 : Int32) <<< (nI i &&& 31)) = nI (T + (1 - T / 2 ^ i % 2) * 2 ^ i) ∧ T + (1 - T / 2 ^ i % 2) * 2 ^ i < 8 ∧ ∀ k, k < 3 → (T + (1 - T / 2 ^ i % 2) * 2 ^ i) / 2 ^ k % 2 = if k = i then 1 else T / 2 ^ k % 2 := by decide +kernel
theorem nar1 : vp_nar .boolean 1 = 1 := by decide
theorem nar0 : vp_nar .boolean 0 = 0 := by decide
theorem FREL.image {p : Int32} (h : FREL v f v1 f1) (e : gsX_X10_image_1 NF p v f = (r, u)) (e' : gsY_X11_image_1 NF p v1 f1 w1 g = (r', u')) : r = r' ∧ FREL u.1 u.2 u'.1 u'.2.1 := by
  have hh := h
  obtain ⟨hr, a, b, a1, a2, a3, b1, b2, b3, sm, sc, nw, ac, ⟨T, hT, t20, tb⟩⟩ := h
  rcases in_cases p 3 with ⟨i, hi, rfl⟩ | n
  · have x0 : ¬ nI i < (0 : Int32) := nI_pos (by omega)
    have x3 : nI i < (3 : Int32) := nI_lt (b := 3) hi (by decide)
    have y3 : ¬ (3 : Int32) ≤ nI i := lit_nle (b := 3) rfl hi (by decide)
    obtain ⟨B1, B2, B3, B4⟩ := bitB T hT i hi
    have ci : (nI i).toNatClampNeg = i := nI_clamp (by omega)
    have sv : gsX_X1_saveTo_2 NF (nI i) v f = (v, upd2 f 16 (va_cpy (f 15) (f 16) 0 (i * 44) 44)) := by
      simp only [gsX_X1_saveTo_2]
      rw [if_neg x0, if_neg y3, show nI i * 44 = nI (i * 44) from nI_mulI i 44, nI_clamp (by omega), cN0, show (44 : Int32).toNatClampNeg = 44 from by decide]
    obtain ⟨Z, z1, z2, z3, z4⟩ := yImg (NF := NF) (pp := nI i) (V := v1) (F0 := upd2 f1 36 (upd (f1 36) i 1)) (W := w1) (G := g) (o := 39 * i) (by omega) (nI_mulI 39 i)
    have eX : gsX_X10_image_1 NF (nI i) v f = (f 15 42, upd v 20 (nI (T + (1 - T / 2 ^ i % 2) * 2 ^ i)), upd2 f 16 (va_cpy (f 15) (f 16) 0 (i * 44) 44)) := by
      simp only [gsX_X10_image_1, gsX_X5_fillBox_1, if_neg x0, if_pos x3, sv, t20, B2, ite11, if_true, gsX_X1_today_1, cN42]
      rfl
    have eY : gsY_X11_image_1 NF (nI i) v1 f1 w1 g = (Z 23 37, v1, Z, w1, g) := by
      simp only [gsY_X11_image_1, gsY_X11_isBox_1, if_neg x0, if_neg y3, ite11, if_true, ci, nar1, z4, cN37]
    rw [eX] at e
    rw [eY] at e'
    cases e; cases e'
    show f 15 42 = Z 23 37 ∧ FREL (upd v 20 (nI (T + (1 - T / 2 ^ i % 2) * 2 ^ i))) (upd2 f 16 (va_cpy (f 15) (f 16) 0 (i * 44) 44)) v1 Z
    refine ⟨by rw [z1 23 (by decide)]; exact nw.2.2.2.1.1, hr.keep (fr_u rfl) (fr_u2 rfl) (fun _ _ => rfl) (fun k hk => (z1 k (kx_ne hk rfl)).trans (fr_u2 (N := YAF) rfl k hk)), a, b, a1, a2, a3, b1, b2, b3, ?_, ?_, ?_, ?_, T + (1 - T / 2 ^ i % 2) * 2 ^ i, B3, rfl, fun k hk => ?_⟩
    · unfold STM; rw [z1 16 (by decide), z1 17 (by decide), z1 18 (by decide)]; exact sm
    · unfold STC; rw [z1 19 (by decide), z1 20 (by decide), z1 21 (by decide), z1 22 (by decide)]; exact sc
    · show NWR 999 a b (f 15) (Z 23)
      rw [z1 23 (by decide)]; exact nw
    · unfold ACT; rw [z1 25 (by decide)]; exact ac
    · rw [B4 k hk]
      have z36 : Z 36 k = upd (f1 36) i 1 k := by rw [z1 36 (by decide)]; rfl
      have z37 : ∀ j, ¬ (39 * i ≤ j ∧ j < 39 * i + 39) → Z 37 j = f1 37 j := fun j hj => (z2 j hj).trans rfl
      by_cases ek : k = i
      · rw [if_pos ek, z36, ek, pk_us]
        refine ⟨rfl, fun _ => nw.cg a3 b3 (fun j hj => ?_) (fun j hj => ?_)⟩
        · exact cpy_at hj
        · exact z3 j hj
      · rw [if_neg ek, z36, pk_un ek]
        obtain ⟨q1, q2⟩ := tb k hk
        refine ⟨q1, fun q => (q2 q).cg a3 b3 (fun j hj => ?_) (fun j hj => ?_)⟩
        · exact cpy_off (by omega)
        · exact z37 _ (by omega)
  · have eX : gsX_X10_image_1 NF p v f = (-1, v, f) := by
      by_cases c : p < 0
      · simp only [gsX_X10_image_1, gsX_X5_fillBox_1, if_pos c, ite01]
      · obtain ⟨P, hP, rfl⟩ := nI_of c
        have x3 : ¬ nI P < (3 : Int32) := fun z => n ⟨P, (nI_ltI (b := 3) hP (by decide)).mp z, rfl⟩
        simp only [gsX_X10_image_1, gsX_X5_fillBox_1, if_neg c, if_neg x3, ite01]
    have eY : gsY_X11_image_1 NF p v1 f1 w1 g = (-1, v1, f1, w1, g) := by
      by_cases c : p < 0
      · simp only [gsY_X11_image_1, gsY_X11_isBox_1, if_pos c, ite01]
      · obtain ⟨P, hP, rfl⟩ := nI_of c
        have x3 : (3 : Int32) ≤ nI P := lit_le (b := 3) rfl (Nat.le_of_not_lt (fun z => n ⟨P, z, rfl⟩)) hP
        simp only [gsY_X11_image_1, gsY_X11_isBox_1, if_neg c, if_pos x3, ite01]
    rw [eX] at e
    rw [eY] at e'
    cases e; cases e'
    exact ⟨rfl, hh⟩
theorem yBack {V : Nat → Int32} {F0 : Nat → Nat → Int32} {W : Int64} {G : Nat → Int64} {i : Nat} (hi : i < 3) : ∃ F' : Nat → Nat → Int32, (∀ q, q ≠ 23 → F' q = F0 q) ∧ (∀ k, k < 39 → F' 23 k = F0 37 (39 * i + k)) ∧ gsY_X11_back_1_L6 NF (nI i) (4294967296 + NF) 0 V F0 W G = (F' 23 (37 : Int32).toNatClampNeg, upd (upd V 35 0) 36 0, F', W, G) := by
  refine lpQ (S := SY) (fun fu j s => gsY_X11_back_1_L6 NF (nI i) fu j s.1 s.2.1 s.2.2.1 s.2.2.2) (fun r => ∃ F' : Nat → Nat → Int32, (∀ q, q ≠ 23 → F' q = F0 q) ∧ (∀ k, k < 39 → F' 23 k = F0 37 (39 * i + k)) ∧ r = (F' 23 (37 : Int32).toNatClampNeg, upd (upd V 35 0) 36 0, F', W, G)) (fun j s => ∃ F' : Nat → Nat → Int32, s = (V, F', W, G) ∧ (∀ q, q ≠ 23 → F' q = F0 q) ∧ (∀ k, k < j → F' 23 k = F0 37 (39 * i + k))) 39 ?_ ?_ 39 0 (4294967296 + NF) (V, F0, W, G) (by omega) (by omega) ⟨F0, rfl, fun q _ => rfl, fun k hk => absurd hk (Nat.not_lt_zero _)⟩
  · intro fu j s hj hs
    obtain ⟨y, rfl, hF, hK⟩ := hs
    refine Or.inl ⟨(V, upd2 y 23 (upd (y 23) j (y 37 (39 * i + j))), W, G), ⟨_, rfl, ?_, ?_⟩, ?_⟩
    · intro q hq
      exact (u2n hq).trans (hF q hq)
    · intro k hk
      show upd (y 23) j (y 37 (39 * i + j)) k = _
      by_cases e : k = j
      · rw [e, pk_us, hF 37 (by decide)]
      · rw [pk_un e]
        exact hK k (by omega)
    · show gsY_X11_back_1_L6 NF (nI i) (fu + 1) (nI j) V y W G = gsY_X11_back_1_L6 NF (nI i) fu (nI (j + 1)) V _ W G
      simp only [gsY_X11_back_1_L6]
      rw [if_neg (show ¬ (39 : Int32) ≤ nI j from lit_nle (b := 39) rfl hj (by decide)), nI_1, show (39 : Int32) * nI i = nI (39 * i) from nI_mulI 39 i, nI_add, nI_clamp (show 39 * i + j < 2 ^ 31 by omega), nI_clamp (show j < 2 ^ 31 by omega)]
  · intro fu s hs
    obtain ⟨y, rfl, hF, hK⟩ := hs
    refine ⟨y, hF, hK, ?_⟩
    show gsY_X11_back_1_L6 NF (nI i) (fu + 1) (nI 39) V y W G = _
    simp only [gsY_X11_back_1_L6]
    rw [if_pos (show (39 : Int32) ≤ nI 39 from lit_le (b := 39) rfl (Nat.le_refl _) (by decide))]
theorem FREL.back {p : Int32} (h : FREL v f v1 f1) (e : gsX_X10_back_1 NF p v f = (r, u)) (e' : gsY_X11_back_1 NF p v1 f1 w1 g = (r', u')) : r = r' ∧ FREL u.1 u.2 u'.1 u'.2.1 := by
  have hh := h
  obtain ⟨hr, a, b, a1, a2, a3, b1, b2, b3, sm, sc, nw, ac, ⟨T, hT, t20, tb⟩⟩ := h
  have bad : gsX_X10_back_1 NF p v f = (-1, v, f) → gsY_X11_back_1 NF p v1 f1 w1 g = (-1, v1, f1, w1, g) → r = r' ∧ FREL u.1 u.2 u'.1 u'.2.1 := fun x y => by
    rw [x] at e
    rw [y] at e'
    cases e; cases e'
    exact ⟨rfl, hh⟩
  rcases in_cases p 3 with ⟨i, hi, rfl⟩ | n
  · have x0 : ¬ nI i < (0 : Int32) := nI_pos (by omega)
    have y3 : ¬ (3 : Int32) ≤ nI i := lit_nle (b := 3) rfl hi (by decide)
    obtain ⟨B1, _, _, _⟩ := bitB T hT i hi
    have ci : (nI i).toNatClampNeg = i := nI_clamp (by omega)
    obtain ⟨q1, q2⟩ := tb i hi
    by_cases c : T / 2 ^ i % 2 = 1
    · have n0 : ¬ nI 1 = (0 : Int32) := by decide
      rw [c] at B1 q1
      have nb := q2 c
      have ld : gsX_X1_loadFrom_2 NF (nI i) v f = (v, upd2 f 15 (va_cpy (f 16) (f 15) (i * 44) 0 44)) := by
        simp only [gsX_X1_loadFrom_2]
        rw [if_neg x0, if_neg y3, show nI i * 44 = nI (i * 44) from nI_mulI i 44, nI_clamp (by omega), cN0, show (44 : Int32).toNatClampNeg = 44 from by decide]
      generalize hx : va_cpy (f 16) (f 15) (i * 44) 0 44 = x at ld
      have hx' : ∀ k, k < 44 → x k = f 16 (i * 44 + k) := fun k hk => by rw [← hx]; exact cpy_from hk
      have sv : ∀ W : Nat → Int32, gsX_X1_saveTo_1 NF 0 W (upd2 f 15 x) = (W, upd2 (upd2 f 15 x) 17 (va_cpy x (f 17) 0 0 44)) := fun W => rfl
      obtain ⟨Z, z1, z2, z3⟩ := yBack (NF := NF) (V := v1) (F0 := f1) (W := w1) (G := g) hi
      have eX : gsX_X10_back_1 NF (nI i) v f = (x 42, upd (upd (upd v 21 0) 22 0) 23 0, upd2 (upd2 f 15 x) 17 (va_cpy x (f 17) 0 0 44)) := by
        simp only [gsX_X10_back_1, gsX_X5_takeBox_1, if_neg x0, if_neg y3, t20, B1, if_neg n0, ld, gsX_X5_forgetActs_1, sv, ite11, if_true, gsX_X1_today_1, cN42]
        rfl
      have eY : gsY_X11_back_1 NF (nI i) v1 f1 w1 g = (Z 23 37, upd (upd v1 35 0) 36 0, Z, w1, g) := by
        simp only [gsY_X11_back_1, gsY_X11_isBox_1, if_neg x0, if_neg y3, ite11, if_true, ci, q1, if_neg n0, z3, cN37]
      rw [eX] at e
      rw [eY] at e'
      cases e; cases e'
      have nx : NWR 999 a b x (Z 23) := nb.cg a3 b3 hx' (fun k hk => z2 k hk)
      refine ⟨nx.2.2.2.1.1, hh.row (fun k k1 k2 k3 => (pk_un k3).trans ((pk_un k2).trans (pk_un k1))) (fun q q1 q2 => (u2n q2).trans (u2n q1)) (fun k k1 k2 => (pk_un k2).trans (pk_un k1)) (fun q q1 _ => z1 q q1) (fun a' b' a1' b1' a3' b3' nw' ac' _ => ?_)⟩
      have ea : a' = a := (nI_eq (by omega) (by omega)).mp (a1'.symm.trans a1)
      have eb : b' = b := (nI_eq (by omega) (by omega)).mp (b1'.symm.trans b1)
      subst ea eb
      refine ⟨nx, 0, 0, 0, by omega, by omega, rfl, rfl, rfl, rfl, rfl, fun k hk => absurd hk (Nat.not_lt_zero _), fun k _ hk => absurd hk (Nat.not_lt_zero _), fun k hk => ?_⟩
      show va_cpy x (f 17) 0 0 44 ((0 + 0) % 41 * 44 + k) = x k
      rw [show (0 + 0) % 41 * 44 + k = k by omega]
      exact cpy_in hk
    · have c0 : T / 2 ^ i % 2 = 0 := by omega
      rw [c0] at B1 q1
      refine bad ?_ ?_
      · simp only [gsX_X10_back_1, gsX_X5_takeBox_1, if_neg x0, if_neg y3, t20, B1, if_pos (show nI 0 = (0 : Int32) from rfl), ite01]
      · simp only [gsY_X11_back_1, gsY_X11_isBox_1, if_neg x0, if_neg y3, ite11, if_true, ci, q1, if_pos (show nI 0 = (0 : Int32) from rfl)]
  · refine bad ?_ ?_
    · by_cases c : p < 0
      · simp only [gsX_X10_back_1, gsX_X5_takeBox_1, if_pos c, ite01]
      · obtain ⟨P, hP, rfl⟩ := nI_of c
        have x3 : (3 : Int32) ≤ nI P := lit_le (b := 3) rfl (Nat.le_of_not_lt (fun z => n ⟨P, z, rfl⟩)) hP
        simp only [gsX_X10_back_1, gsX_X5_takeBox_1, if_neg c, if_pos x3, ite01]
    · by_cases c : p < 0
      · simp only [gsY_X11_back_1, gsY_X11_isBox_1, if_pos c, ite01]
      · obtain ⟨P, hP, rfl⟩ := nI_of c
        have x3 : (3 : Int32) ≤ nI P := lit_le (b := 3) rfl (Nat.le_of_not_lt (fun z => n ⟨P, z, rfl⟩)) hP
        simp only [gsY_X11_back_1, gsY_X11_isBox_1, if_neg c, if_pos x3, ite01]
end
end
section
section
variable {NF : Nat}
def CMS (D a b : Nat) (x y : Nat → Int32) : Prop := (∀ m, m < a → x m = y m ∧ NBx 99 (x m)) ∧ (∀ c, c < b → (x (12 + c) = y (12 + c) ∧ NBx 99 (x (12 + c))) ∧ (x (18 + c) = y (18 + c) ∧ NBx 99 (x (18 + c))) ∧ (x (30 + c) = y (30 + c) ∧ NBx 99 (x (30 + c)))) ∧ x 42 = y 37 ∧ NBx D (x 42)
theorem NWR.cms {D a b : Nat} {x y : Nat → Int32} (h : NWR D a b x y) : CMS D a b x y :=
  ⟨fun m hm => ⟨(h.1 m hm).1, (h.1 m hm).2.1⟩, fun c hc => ⟨(h.2.1 c hc).1, (h.2.1 c hc).2.1, (h.2.1 c hc).2.2.2⟩, h.2.2.2.1.1, h.2.2.2.1.2⟩
theorem CMS.cg {D a b : Nat} {x y x' y' : Nat → Int32} (h : CMS D a b x y) (ha : a ≤ 6) (hb : b ≤ 6) (hx : ∀ k, (k < 6 ∨ (12 ≤ k ∧ k < 44)) → x' k = x k) (hy : ∀ k, (k < 6 ∨ (12 ≤ k ∧ k < 39)) → y' k = y k) : CMS D a b x' y' := by
  obtain ⟨h1, h2, h3, h4⟩ := h
  refine ⟨fun m hm => ?_, fun c hc => ?_, ?_, ?_⟩
  · rw [hx m (by omega), hy m (by omega)]; exact h1 m hm
  · rw [hx (12 + c) (by omega), hx (18 + c) (by omega), hx (30 + c) (by omega), hy (12 + c) (by omega), hy (18 + c) (by omega), hy (30 + c) (by omega)]; exact h2 c hc
  · rw [hx 42 (by decide), hy 37 (by decide)]; exact h3
  · rw [hx 42 (by decide)]; exact h4
def yI (NF : Nat) (v1 : Nat → Int32) (F1 : Nat → Nat → Int32) (w1 : Int64) (g : Nat → Int64) (m c : Nat) : Int32 := (gsY_X11_misfitOf_1 NF (nI m) (nI c) v1 F1 w1 g).1
theorem illBoth1 {v : Nat → Int32} {f F : Nat → Nat → Int32} {v1 : Nat → Int32} {f1 F1 : Nat → Nat → Int32} {w1 : Int64} {g : Nat → Int64} {a b m c D : Nat} (a1 : v 31 = nI a) (a3 : a ≤ 6) (b1 : v 32 = nI b) (b3 : b ≤ 6) (sm : STM f f1 a) (sf : STF v f v1 f1) (hD : D ≤ 9999) (hF : ∀ q, q = 9 ∨ q = 11 ∨ q = 12 → F q = f q) (hF1 : ∀ q, q = 4 ∨ q = 5 ∨ q = 16 → F1 q = f1 q) (hn : CMS D a b (F 15) (F1 24)) (hm : m < a) (hc : c < b) : ∃ (r : Int32) (F' F1' : Nat → Nat → Int32), gsX_X1_illness_1 NF (nI m) (nI c) v F = (r, v, F') ∧ gsY_X11_misfitOf_1 NF (nI m) (nI c) v1 F1 w1 g = (r, v1, F1', w1, g) ∧ (∀ q, q ≠ 13 → q ≠ 14 → F' q = F q) ∧ (∀ q, q ≠ 7 → q ≠ 8 → F1' q = F1 q) ∧ (0 ≤ r ∧ r ≤ 999) := by
  obtain ⟨n1, n2, n3, d6, hd6, ed6⟩ := hn
  obtain ⟨m1, d2, hd2, ed2⟩ := n1 m hm
  obtain ⟨⟨k1, d3, hd3, ed3⟩, ⟨k2, d4, hd4, ed4⟩, ⟨k3, d5, hd5, ed5⟩⟩ := n2 c hc
  obtain ⟨t1, _, _, tb⟩ := sm m hm
  obtain ⟨d1, hd1, ed1⟩ := NBx.of (n := 99) rfl (by decide) tb.1
  have x1 : gsX_X7_manPart_1 NF 0 (nI m) v F = nI d1 := by
    have q : gsX_X7_manPart_1 NF 0 (nI m) v F = F 9 (0 * 6 + m) := xManP (p := 0) a1 a3 hm (by decide)
    rw [q, hF 9 (Or.inl rfl), Nat.zero_mul, Nat.zero_add]
    exact ed1
  have x2 : gsX_X1_manWide_1 NF (nI m) v F = nI d2 := (xWide1 a1 a3 hm).trans ed2
  have x3 : gsX_X1_part_1 NF 0 (nI c) v F = nI d3 := (show gsX_X1_part_1 NF 0 (nI c) v F = F 15 (12 + c) from xPart1 (p := 0) b1 b3 hc (by decide)).trans ed3
  have x4 : gsX_X1_part_1 NF 1 (nI c) v F = nI d4 := (show gsX_X1_part_1 NF 1 (nI c) v F = F 15 (18 + c) from xPart1 (p := 1) b1 b3 hc (by decide)).trans ed4
  have x5 : gsX_X1_part_1 NF 3 (nI c) v F = nI d5 := (show gsX_X1_part_1 NF 3 (nI c) v F = F 15 (30 + c) from xPart1 (p := 3) b1 b3 hc (by decide)).trans ed5
  have x6 : gsX_X1_today_1 NF v F = nI d6 := by
    simp only [gsX_X1_today_1, cN42]
    exact ed6
  obtain ⟨G, g1, g2⟩ := worthX (NF := NF) (P1 := d1) (P2 := d2) (P3 := d3) (P4 := d4) (P5 := d5) (P6 := d6) (by omega) (by omega) (by omega) (by omega) (by omega) (v := v) (f := F)
  obtain ⟨G1, g3, g4⟩ := misfY (NF := NF) (P1 := d1) (P2 := d2) (P3 := d3) (P4 := d4) (P5 := d5) (P6 := d6) (m := m) (c := c) (by omega) (by omega) (by omega) (by omega) (by omega) (by omega) (by omega) (v1 := v1) (f1 := F1) (w1 := w1) (g := g) (by rw [hF1 16 (Or.inr (Or.inr rfl)), ← t1]; exact ed1) (by rw [← m1]; exact ed2) (by rw [← k1]; exact ed3) (by rw [← k2]; exact ed4) (by rw [← k3]; exact ed5) (by rw [← n3]; exact ed6)
  have sf' : STF v F v1 F1 := by
    unfold STF
    rw [hF 11 (Or.inr (Or.inl rfl)), hF 12 (Or.inr (Or.inr rfl)), hF1 4 (Or.inl rfl), hF1 5 (Or.inr (Or.inl rfl))]
    exact sf
  have hA : agr 6 G G1 := by
    obtain ⟨p0, p1, p2, p3, p4, p5⟩ := g1
    obtain ⟨q0, q1, q2, q3, q4, q5⟩ := g3
    intro k hk
    rcases (show k = 0 ∨ k = 1 ∨ k = 2 ∨ k = 3 ∨ k = 4 ∨ k = 5 by omega) with e | e | e | e | e | e <;> subst e
    · exact p0.trans q0.symm
    · exact p1.trans q1.symm
    · exact p2.trans q2.symm
    · exact p3.trans q3.symm
    · exact p4.trans q4.symm
    · exact p5.trans q5.symm
  obtain ⟨r, A, B, e1, e2, e3, e4, e5⟩ := evPair (NF := NF) (w1 := w1) (g := g) sf' hA (df9_rng (dfI d1 d2 d3 d4 d5) (by unfold dfI; omega))
  refine ⟨r, A, B, ?_, g4.trans e2, e3, e4, e5⟩
  simp only [gsX_X1_illness_1, x1, x2, x3, x4, x5, x6, g2, e1]
theorem fitX1 {v : Nat → Int32} {f F : Nat → Nat → Int32} {v1 : Nat → Int32} {f1 F1 : Nat → Nat → Int32} {w1 : Int64} {g : Nat → Int64} {a b m c D : Nat} (a1 : v 31 = nI a) (a3 : a ≤ 6) (b1 : v 32 = nI b) (b3 : b ≤ 6) (sm : STM f f1 a) (sf : STF v f v1 f1) (hD : D ≤ 9999) (hF : ∀ q, q = 9 ∨ q = 11 ∨ q = 12 → F q = f q) (hF1 : ∀ q, q = 4 ∨ q = 5 ∨ q = 16 → F1 q = f1 q) (hn : CMS D a b (F 15) (F1 24)) (hm : m < a) (hc : c < b) : ∃ F' : Nat → Nat → Int32, gsX_X1_illness_1 NF (nI m) (nI c) v F = (yI NF v1 F1 w1 g m c, v, F') ∧ gsX_X1_fits_1 NF (nI m) (nI c) v F = ((if v 33 < yI NF v1 F1 w1 g m c then 0 else 1), v, F') ∧ (∀ q, q ≠ 13 → q ≠ 14 → F' q = F q) := by
  obtain ⟨r, A, B, e1, e2, e3, _, _⟩ := illBoth1 (NF := NF) (w1 := w1) (g := g) a1 a3 b1 b3 sm sf hD hF hF1 hn hm hc
  have er : yI NF v1 F1 w1 g m c = r := by unfold yI; rw [e2]
  rw [er]
  refine ⟨A, e1, ?_, e3⟩
  simp only [gsX_X1_fits_1, xHasM1 (NF := NF) (F := F) a1 a3 hm, xHasC1 (NF := NF) (F := F) b1 b3 hc, ite11, if_true, e1]
  by_cases z : v 33 < r
  · rw [if_pos z, if_pos z]
  · rw [if_neg z, if_neg z]
theorem fitX01 {v : Nat → Int32} {F : Nat → Nat → Int32} {a b m : Nat} (a1 : v 31 = nI a) (a3 : a ≤ 6) (b1 : v 32 = nI b) (b3 : b ≤ 6) (hm : m < a) : gsX_X1_fits_1 NF (nI m) (-1) v F = (0, v, F) := by
  have q : gsX_X7_hasCoat_1 NF (-1) v F = 0 := xHasC0 b1 (fun ⟨P, hP, z⟩ => nI_nm1 (show P < 2 ^ 31 by omega) z.symm)
  simp only [gsX_X1_fits_1, xHasM1 (NF := NF) (F := F) a1 a3 hm, q, ite11, if_true, ite01]
end
section
variable {NF : Nat}
theorem illY {v : Nat → Int32} {f : Nat → Nat → Int32} {v1 : Nat → Int32} {f1 F1 F2 : Nat → Nat → Int32} {w1 : Int64} {g : Nat → Int64} {a b m c D : Nat} (a1 : v 31 = nI a) (a3 : a ≤ 6) (b1 : v 32 = nI b) (b3 : b ≤ 6) (sm : STM f f1 a) (sf : STF v f v1 f1) (hD : D ≤ 9999) (hF1 : ∀ q, q = 4 ∨ q = 5 ∨ q = 16 → F1 q = f1 q) (hF2 : ∀ q, q = 4 ∨ q = 5 ∨ q = 16 → F2 q = f1 q) {x : Nat → Int32} (hn : CMS D a b x (F1 24)) (hn2 : CMS D a b x (F2 24)) (hm : m < a) (hc : c < b) : ∃ F' : Nat → Nat → Int32, gsY_X11_misfitOf_1 NF (nI m) (nI c) v1 F2 w1 g = (yI NF v1 F1 w1 g m c, v1, F', w1, g) ∧ gsY_X11_fits_1 NF (nI m) (nI c) v1 F2 w1 g = ((if v1 26 < yI NF v1 F1 w1 g m c then 0 else 1), v1, F', w1, g) ∧ (∀ q, q ≠ 7 → q ≠ 8 → F' q = F2 q) ∧ (0 ≤ yI NF v1 F1 w1 g m c ∧ yI NF v1 F1 w1 g m c ≤ 999) := by
  obtain ⟨r, A, B, e1, e2, e3, e4, e5⟩ := illBoth1 (NF := NF) (w1 := w1) (g := g) (F := upd2 f 15 x) a1 a3 b1 b3 sm sf hD (fun q hq => u2n (by omega)) hF1 hn hm hc
  obtain ⟨r', A', B', e1', e2', e3', e4', e5'⟩ := illBoth1 (NF := NF) (w1 := w1) (g := g) (F := upd2 f 15 x) a1 a3 b1 b3 sm sf hD (fun q hq => u2n (by omega)) hF2 hn2 hm hc
  have er : yI NF v1 F1 w1 g m c = r := by unfold yI; rw [e2]
  have rr : r' = r := by
    rw [e1] at e1'
    exact (congrArg (fun z => z.1) e1').symm
  rw [er, ← rr]
  refine ⟨B', e2', ?_, e4', e5'⟩
  simp only [gsY_X11_fits_1, if_neg (show ¬ nI c < (0 : Int32) from nI_pos (by omega)), e2']
  by_cases z : v1 26 < r'
  · rw [if_pos z, if_pos z]
  · rw [if_neg z, if_neg z]
end
end
section
section
variable {NF : Nat}
def bts (p : Nat → Bool) : Nat → Nat
  | 0 => 0
  | n + 1 => bts p n + (if p n = true then 2 ^ n else 0)
theorem btF : ∀ n, n < 6 → ∀ B, B < 64 → B < 2 ^ n → nI B ||| ((1 : Int32) <<< (nI n &&& 31)) = nI (B + 2 ^ n) ∧ nI B ||| ((0 : Int32) <<< (nI n &&& 31)) = nI B ∧ (B + 2 ^ n) / 2 ^ n % 2 = 1 ∧ B / 2 ^ n % 2 = 0 ∧ B + 2 ^ n < 2 ^ (n + 1) ∧ (∀ m, m < n → (B + 2 ^ n) / 2 ^ m % 2 = B / 2 ^ m % 2) := by decide +kernel
theorem p2le : ∀ n, n ≤ 6 → 2 ^ n ≤ 64 := by decide
theorem bts_lt (p : Nat → Bool) : ∀ n, n ≤ 6 → bts p n < 2 ^ n := by
  intro n
  induction n with
  | zero => intro _; exact (show (0 : Nat) < 1 by decide)
  | succ n ih =>
    intro hn
    have h := ih (by omega)
    have h64 := p2le n (by omega)
    obtain ⟨_, _, _, _, e, _⟩ := btF n (by omega) (bts p n) (by omega) h
    show bts p n + (if p n = true then 2 ^ n else 0) < 2 ^ (n + 1)
    by_cases c : p n = true
    · rw [if_pos c]; exact e
    · rw [if_neg c]; omega
theorem bts_bit (p : Nat → Bool) : ∀ n, n ≤ 6 → ∀ m, m < n → bts p n / 2 ^ m % 2 = if p m = true then 1 else 0 := by
  intro n
  induction n with
  | zero => intro _ m hm; exact absurd hm (Nat.not_lt_zero _)
  | succ n ih =>
    intro hn m hm
    have h := bts_lt p n (by omega)
    have h64 := p2le n (by omega)
    obtain ⟨_, _, e1, e2, _, e3⟩ := btF n (by omega) (bts p n) (by omega) h
    show (bts p n + (if p n = true then 2 ^ n else 0)) / 2 ^ m % 2 = _
    by_cases c : p n = true
    · rw [if_pos c]
      by_cases em : m = n
      · rw [em, e1, if_pos c]
      · rw [e3 m (by omega)]; exact ih (by omega) m (by omega)
    · rw [if_neg c, Nat.add_zero]
      by_cases em : m = n
      · rw [em, e2, if_neg c]
      · exact ih (by omega) m (by omega)
theorem bts_cg {p q : Nat → Bool} : ∀ n, (∀ m, m < n → p m = q m) → bts p n = bts q n := by
  intro n
  induction n with
  | zero => intro _; rfl
  | succ n ih =>
    intro h
    show bts p n + (if p n = true then 2 ^ n else 0) = bts q n + (if q n = true then 2 ^ n else 0)
    rw [ih (fun m hm => h m (by omega)), h n (by omega)]
theorem bts_or {p : Nat → Bool} {n : Nat} (hn : n < 6) : (p n = true → nI (bts p n) ||| ((1 : Int32) <<< (nI n &&& 31)) = nI (bts p (n + 1))) ∧ (¬ p n = true → nI (bts p n) ||| ((0 : Int32) <<< (nI n &&& 31)) = nI (bts p (n + 1)) ∧ nI (bts p n) = nI (bts p (n + 1))) := by
  have h := bts_lt p n (by omega)
  have h64 := p2le n (by omega)
  obtain ⟨e1, e2, _⟩ := btF n hn (bts p n) (by omega) h
  have eb : bts p (n + 1) = bts p n + (if p n = true then 2 ^ n else 0) := rfl
  refine ⟨fun c => ?_, fun c => ?_⟩
  · rw [eb, if_pos c]; exact e1
  · rw [eb, if_neg c, Nat.add_zero]; exact ⟨e2, rfl⟩
theorem andN : ∀ A, A < 64 → ∀ B, B < 64 → nI A &&& (nI B ^^^ (-1)) = nI (A &&& (63 ^^^ B)) ∧ (A &&& (63 ^^^ B)) < 64 := by decide +kernel
theorem andB : ∀ A, A < 64 → ∀ B, B < 64 → ∀ m, m < 6 → (A &&& (63 ^^^ B)) / 2 ^ m % 2 = (A / 2 ^ m % 2) * (1 - B / 2 ^ m % 2) := by decide +kernel
theorem eqB : ∀ A, A < 64 → ∀ B, B < 64 → (∀ m, m < 6 → A / 2 ^ m % 2 = B / 2 ^ m % 2) → A = B := by decide +kernel
theorem hiB : ∀ n, n ≤ 6 → ∀ A, A < 64 → A < 2 ^ n → ∀ m, m < 6 → n ≤ m → A / 2 ^ m % 2 = 0 := by decide +kernel
theorem bts_and (p q : Nat → Bool) {n : Nat} (hn : n ≤ 6) : nI (bts p n) &&& (nI (bts q n) ^^^ (-1)) = nI (bts (fun m => p m && !q m) n) := by
  have hp := bts_lt p n hn
  have hq := bts_lt q n hn
  have hr := bts_lt (fun m => p m && !q m) n hn
  have h64 := p2le n hn
  obtain ⟨e1, e2⟩ := andN (bts p n) (by omega) (bts q n) (by omega)
  rw [e1]
  congr 1
  refine eqB _ e2 _ (by omega) (fun m hm => ?_)
  rw [andB _ (by omega) _ (by omega) m hm]
  by_cases c : m < n
  · rw [bts_bit p n hn m c, bts_bit q n hn m c, bts_bit _ n hn m c]
    cases p m <;> cases q m <;> rfl
  · rw [hiB n hn _ (by omega) hp m hm (by omega), hiB n hn _ (by omega) hr m hm (by omega), Nat.zero_mul]
def nv (x : Int32) : Nat := x.toNatClampNeg
theorem NBx.nat {n : Nat} {x : Int32} (h : NBx n x) (hn : n < 2 ^ 31) : nv x ≤ n ∧ x = nI (nv x) := by
  obtain ⟨j, hj, rfl⟩ := h
  have e : nv (nI j) = j := nI_clamp (by omega)
  rw [e]; exact ⟨hj, rfl⟩
theorem min99 {s : Nat} (hs : s < 2 ^ 31) : (if nI s < (99 : Int32) then nI s else (99 : Int32)) = nI (min 99 s) := by
  by_cases c : s < 99
  · rw [if_pos (show nI s < (99 : Int32) from nI_lt (b := 99) c (by decide)), Nat.min_eq_right (by omega)]
  · rw [if_neg (show ¬ nI s < (99 : Int32) from nI_nlt (b := 99) (by omega) hs), Nat.min_eq_left (by omega)]; rfl
theorem les99 {s : Nat} (hs : s < 2 ^ 31) {v1 : Nat → Int32} {f1 : Nat → Nat → Int32} {w1 : Int64} {g : Nat → Int64} : gsY_X11_lesser_1 NF 99 (nI s) v1 f1 w1 g = nI (min 99 s) := by
  simp only [gsY_X11_lesser_1]
  by_cases c : s ≤ 99
  · rw [if_pos (show nI s ≤ (99 : Int32) from nI_le (b := 99) c (by decide)), Nat.min_eq_right c]
  · rw [if_neg (show ¬ nI s ≤ (99 : Int32) from nI_ge (a := 99) (by omega) hs), Nat.min_eq_left (by omega)]; rfl
theorem gre0 {s z : Nat} (hs : s < 2 ^ 31) (hz : z ≤ 1) {v1 : Nat → Int32} {f1 : Nat → Nat → Int32} {w1 : Int64} {g : Nat → Int64} : gsY_X11_greater_1 NF 0 (nI s - nI z) v1 f1 w1 g = nI (s - z) := by
  simp only [gsY_X11_greater_1]
  by_cases c : z ≤ s
  · rw [nI_subI c, if_pos (nI_pos' (by omega))]
  · have e1 : z = 1 := by omega
    have e0 : s = 0 := by omega
    subst e1 e0
    decide
def dr1 (x : Int32) : Int32 := (x * 137 + 71) - (x * 137 + 71) / 1000 * 1000
def dr2 (x : Int32) : Int32 := dr1 x - dr1 x / 100 * 100
def WTH (z b : Nat) (P : Nat → Prop) (x x' : Nat → Int32) : Prop := (∀ k, (k < 12 ∨ (24 ≤ k ∧ k < 30) ∨ 36 ≤ k) → x' k = x k) ∧ ∀ c, c < b → (P c → x' (12 + c) = nI (nv (x (12 + c)) - z) ∧ x' (18 + c) = nI (nv (x (18 + c)) - z) ∧ x' (30 + c) = nI (min 99 (nv (x (30 + c)) + 1))) ∧ (¬ P c → x' (12 + c) = x (12 + c) ∧ x' (18 + c) = x (18 + c) ∧ x' (30 + c) = x (30 + c))
section
variable {v : Nat → Int32} {F : Nat → Nat → Int32} {a b : Nat}
theorem xGrow1 {p1 : Int32} (a1 : v 31 = nI a) (a3 : a ≤ 6) (hW : ∀ m, m < a → NBx 99 (F 15 m)) (hG : ∀ m, m < a → NBx 9 (F 9 (12 + m))) : ∃ F' : Nat → Nat → Int32, (∀ q, q ≠ 15 → F' q = F q) ∧ (∀ k, ¬ k < a → F' 15 k = F 15 k) ∧ (∀ m, m < a → F' 15 m = nI (min 99 (nv (F 15 m) + nv (F 9 (12 + m))))) ∧ gsX_X1_passDay_1 NF p1 v F = (if p1 ≤ dr2 (F' 15 43) then gsX_X1_passDay_1_L15 NF v (4294967296 + NF) 0 v (upd2 F' 15 (upd (F' 15) 43 (dr1 (F' 15 43)))) else gsX_X1_passDay_1_L56 NF v (4294967296 + NF) 0 v (upd2 F' 15 (upd (F' 15) 43 (dr1 (F' 15 43))))) := by
  refine lpQ (S := SX) (fun fu i s => gsX_X1_passDay_1_L1 NF p1 v fu i s.1 s.2) (fun r => ∃ F' : Nat → Nat → Int32, (∀ q, q ≠ 15 → F' q = F q) ∧ (∀ k, ¬ k < a → F' 15 k = F 15 k) ∧ (∀ m, m < a → F' 15 m = nI (min 99 (nv (F 15 m) + nv (F 9 (12 + m))))) ∧ r = (if p1 ≤ dr2 (F' 15 43) then gsX_X1_passDay_1_L15 NF v (4294967296 + NF) 0 v (upd2 F' 15 (upd (F' 15) 43 (dr1 (F' 15 43)))) else gsX_X1_passDay_1_L56 NF v (4294967296 + NF) 0 v (upd2 F' 15 (upd (F' 15) 43 (dr1 (F' 15 43)))))) (fun j s => ∃ F' : Nat → Nat → Int32, s = (v, F') ∧ (∀ q, q ≠ 15 → F' q = F q) ∧ (∀ k, ¬ k < j → F' 15 k = F 15 k) ∧ (∀ m, m < j → F' 15 m = nI (min 99 (nv (F 15 m) + nv (F 9 (12 + m)))))) a ?_ ?_ a 0 (4294967296 + NF) (v, F) (by omega) (by omega) ⟨F, rfl, fun q _ => rfl, fun i _ => rfl, fun k hk => absurd hk (Nat.not_lt_zero _)⟩
  · intro fu j s hj hs
    obtain ⟨y, rfl, hF, hO, hK⟩ := hs
    obtain ⟨w1, w2⟩ := (hW j hj).nat (by decide)
    obtain ⟨g1, g2⟩ := (hG j hj).nat (by decide)
    have mp : gsX_X7_manPart_1 NF 2 (nI j) v y = nI (nv (F 9 (12 + j))) := by
      have q : gsX_X7_manPart_1 NF 2 (nI j) v y = y 9 (12 + j) := xManP (p := 2) a1 a3 hj (by decide)
      rw [q, hF 9 (by decide)]; exact g2
    have yj : y 15 j = nI (nv (F 15 j)) := (hO j (by omega)).trans w2
    refine Or.inl ⟨(v, upd2 y 15 (upd (y 15) j (nI (min 99 (nv (F 15 j) + nv (F 9 (12 + j))))))), ⟨_, rfl, fun q hq => (u2n hq).trans (hF q hq), fun k hk => ?_, fun m hm => ?_⟩, ?_⟩
    · show upd (y 15) j _ k = _
      rw [pk_un (by omega)]; exact hO k (by omega)
    · show upd (y 15) j _ m = _
      by_cases e : m = j
      · rw [e, pk_us]
      · rw [pk_un e]; exact hK m (by omega)
    · show gsX_X1_passDay_1_L1 NF p1 v (fu + 1) (nI j) v y = gsX_X1_passDay_1_L1 NF p1 v fu (nI (j + 1)) v _
      simp only [gsX_X1_passDay_1_L1, a1, mp, nI_clamp (show j < 2 ^ 31 by omega), yj, nI_add, nI_1, min99 (show nv (F 15 j) + nv (F 9 (12 + j)) < 2 ^ 31 by omega)]
      rw [if_neg (show ¬ nI a ≤ nI j from nI_ge hj (by omega))]
  · intro fu s hs
    obtain ⟨y, rfl, hF, hO, hK⟩ := hs
    refine ⟨y, hF, hO, hK, ?_⟩
    show gsX_X1_passDay_1_L1 NF p1 v (fu + 1) (nI a) v y = _
    simp only [gsX_X1_passDay_1_L1, a1, cN43, u2s, pk_us]
    rw [if_pos (show nI a ≤ nI a from nI_le (Nat.le_refl _) (by omega))]
    rfl
theorem xWeat11 {c z : Nat} (b1 : v 32 = nI b) (b3 : b ≤ 6) (hc : c < b) (hz : z ≤ 1) (h12 : NBx 99 (F 15 (12 + c))) (h18 : NBx 99 (F 15 (18 + c))) (h30 : NBx 99 (F 15 (30 + c))) : gsX_X1_weather_1 NF (nI c) (nI z) v F = (v, upd2 F 15 (upd (upd (upd (F 15) (30 + c) (nI (min 99 (nv (F 15 (30 + c)) + 1)))) (18 + c) (nI (nv (F 15 (18 + c)) - z))) (12 + c) (nI (nv (F 15 (12 + c)) - z)))) := by
  obtain ⟨q1, q2⟩ := h12.nat (by decide)
  obtain ⟨q3, q4⟩ := h18.nat (by decide)
  obtain ⟨q5, q6⟩ := h30.nat (by decide)
  have r3 : gsX_X1_part_1 NF 3 (nI c) v F = nI (nv (F 15 (30 + c))) := (show gsX_X1_part_1 NF 3 (nI c) v F = F 15 (30 + c) from xPart1 (p := 3) b1 b3 hc (by decide)).trans q6
  generalize hA : upd2 F 15 (upd (F 15) (30 + c) (nI (min 99 (nv (F 15 (30 + c)) + 1)))) = A
  have s3 : gsX_X1_setPart_1 NF 3 (nI c) (nI (min 99 (nv (F 15 (30 + c)) + 1))) v F = (v, A) := by rw [← hA]; exact xSetP1 (p := 3) b1 b3 hc (by decide)
  have A18 : A 15 (18 + c) = nI (nv (F 15 (18 + c))) := by rw [← hA, u2s, pk_un (by omega)]; exact q4
  have A12 : A 15 (12 + c) = nI (nv (F 15 (12 + c))) := by rw [← hA, u2s, pk_un (by omega)]; exact q2
  have r1 : gsX_X1_part_1 NF 1 (nI c) v A = nI (nv (F 15 (18 + c))) := (show gsX_X1_part_1 NF 1 (nI c) v A = A 15 (18 + c) from xPart1 (p := 1) b1 b3 hc (by decide)).trans A18
  generalize hB : upd2 A 15 (upd (A 15) (18 + c) (nI (nv (F 15 (18 + c)) - z))) = B
  have s1 : gsX_X1_setPart_1 NF 1 (nI c) (nI (nv (F 15 (18 + c)) - z)) v A = (v, B) := by rw [← hB]; exact xSetP1 (p := 1) b1 b3 hc (by decide)
  have B12 : B 15 (12 + c) = nI (nv (F 15 (12 + c))) := by rw [← hB, u2s, pk_un (by omega)]; exact A12
  have r0 : gsX_X1_part_1 NF 0 (nI c) v B = nI (nv (F 15 (12 + c))) := (show gsX_X1_part_1 NF 0 (nI c) v B = B 15 (12 + c) from xPart1 (p := 0) b1 b3 hc (by decide)).trans B12
  have s0 : gsX_X1_setPart_1 NF 0 (nI c) (nI (nv (F 15 (12 + c)) - z)) v B = (v, upd2 B 15 (upd (B 15) (12 + c) (nI (nv (F 15 (12 + c)) - z)))) := xSetP1 (p := 0) b1 b3 hc (by decide)
  simp only [gsX_X1_weather_1, r3, nI_1, min99 (show nv (F 15 (30 + c)) + 1 < 2 ^ 31 by omega), s3, r1, ovX (show nv (F 15 (18 + c)) < 2 ^ 31 by omega) (show z < 2 ^ 31 by omega), s1, r0, ovX (show nv (F 15 (12 + c)) < 2 ^ 31 by omega) (show z < 2 ^ 31 by omega), s0]
  rw [← hB, ← hA, u2s, u2s, upd2_2, upd2_2]
theorem xWeat01 {p : Int32} (b1 : v 32 = nI b) (b3 : b ≤ 6) : gsX_X1_weather_1 NF (-1) p v F = (v, F) := by
  have n : ¬ ∃ P, P < b ∧ (-1 : Int32) = nI P := fun ⟨P, hP, z⟩ => nI_nm1 (show P < 2 ^ 31 by omega) z.symm
  simp only [gsX_X1_weather_1, xSetP0 (NF := NF) (F := F) b1 n]
theorem xWeat1_0 (a1 : v 31 = nI a) (a3 : a ≤ 6) (b1 : v 32 = nI b) (b3 : b ≤ 6) (hw : ∀ m, m < a → F 15 (6 + m) = -1 ∨ ∃ c, c < b ∧ F 15 (6 + m) = nI c) (hi : ∀ m m', m < a → m' < a → F 15 (6 + m) = F 15 (6 + m') → ¬ F 15 (6 + m) = -1 → m = m') (hN : ∀ c, c < b → NBx 99 (F 15 (12 + c)) ∧ NBx 99 (F 15 (18 + c)) ∧ NBx 99 (F 15 (30 + c))) : ∃ F' : Nat → Nat → Int32, (∀ q, q ≠ 15 → F' q = F q) ∧ WTH 0 b (fun c => ∃ m, m < a ∧ F 15 (6 + m) = nI c) (F 15) (F' 15) ∧ gsX_X1_passDay_1_L15 NF v (4294967296 + NF) 0 v F = gsX_X1_passDay_1_L21 NF v (4294967296 + NF) 0 0 v (upd2 F' 15 (upd (F' 15) 42 (F' 15 42 + 1))) := by
  refine lpQ (S := SX) (fun fu i s => gsX_X1_passDay_1_L15 NF v fu i s.1 s.2) (fun r => ∃ F' : Nat → Nat → Int32, (∀ q, q ≠ 15 → F' q = F q) ∧ WTH 0 b (fun c => ∃ m, m < a ∧ F 15 (6 + m) = nI c) (F 15) (F' 15) ∧ r = gsX_X1_passDay_1_L21 NF v (4294967296 + NF) 0 0 v (upd2 F' 15 (upd (F' 15) 42 (F' 15 42 + 1)))) (fun j s => ∃ F' : Nat → Nat → Int32, s = (v, F') ∧ (∀ q, q ≠ 15 → F' q = F q) ∧ WTH 0 b (fun c => ∃ m, m < j ∧ F 15 (6 + m) = nI c) (F 15) (F' 15)) a ?_ ?_ a 0 (4294967296 + NF) (v, F) (by omega) (by omega) ⟨F, rfl, fun q _ => rfl, fun k _ => rfl, fun c hc => ⟨fun ⟨m, hm, _⟩ => absurd hm (Nat.not_lt_zero _), fun _ => ⟨rfl, rfl, rfl⟩⟩⟩
  · intro fu j s hj hs
    obtain ⟨y, rfl, hF, hO, hC⟩ := hs
    have yw : gsX_X1_wears_1 NF (nI j) v y = F 15 (6 + j) := (xWears1 a1 a3 hj).trans (hO (6 + j) (by omega))
    rcases hw j hj with wn | ⟨c0, hc0, wc⟩
    · refine Or.inl ⟨(v, y), ⟨y, rfl, hF, hO, fun c hc => ⟨fun ⟨m, hm, em⟩ => ?_, fun n => ?_⟩⟩, ?_⟩
      · have : m ≠ j := fun z => by rw [z, wn] at em; exact nI_nm1 (show c < 2 ^ 31 by omega) em.symm
        exact (hC c hc).1 ⟨m, by omega, em⟩
      · exact (hC c hc).2 (fun ⟨m, hm, em⟩ => n ⟨m, by omega, em⟩)
      · show gsX_X1_passDay_1_L15 NF v (fu + 1) (nI j) v y = gsX_X1_passDay_1_L15 NF v fu (nI (j + 1)) v y
        simp only [gsX_X1_passDay_1_L15, a1, yw, wn, xWeat01 (NF := NF) (F := y) b1 b3, nI_1]
        rw [if_neg (show ¬ nI a ≤ nI j from nI_ge hj (by omega))]
    · have fresh : ¬ ∃ m, m < j ∧ F 15 (6 + m) = nI c0 := fun ⟨m, hm, em⟩ => by
        have := hi m j (by omega) hj (em.trans wc.symm) (by rw [em]; exact nI_nm1 (by omega))
        omega
      obtain ⟨o1, o2, o3⟩ := (hC c0 hc0).2 fresh
      obtain ⟨b12, b18, b30⟩ := hN c0 hc0
      have we := xWeat11 (NF := NF) (v := v) (F := y) (z := 0) b1 b3 hc0 (by decide) (by rw [o1]; exact b12) (by rw [o2]; exact b18) (by rw [o3]; exact b30)
      rw [o1, o2, o3] at we
      generalize hU : upd (upd (upd (y 15) (30 + c0) (nI (min 99 (nv (F 15 (30 + c0)) + 1)))) (18 + c0) (nI (nv (F 15 (18 + c0)) - 0))) (12 + c0) (nI (nv (F 15 (12 + c0)) - 0)) = U at we
      refine Or.inl ⟨(v, upd2 y 15 U), ⟨_, rfl, fun q hq => (u2n hq).trans (hF q hq), fun k hk => ?_, fun c hc => ?_⟩, ?_⟩
      · show U k = _
        rw [← hU, pk_un (by omega), pk_un (by omega), pk_un (by omega)]
        exact hO k hk
      · show (_ → U (12 + c) = _ ∧ U (18 + c) = _ ∧ U (30 + c) = _) ∧ (_ → U (12 + c) = _ ∧ U (18 + c) = _ ∧ U (30 + c) = _)
        by_cases e : c = c0
        · subst e
          refine ⟨fun _ => ⟨?_, ?_, ?_⟩, fun n => absurd ⟨j, by omega, wc⟩ n⟩
          · rw [← hU, pk_us]
          · rw [← hU, pk_un (by omega), pk_us]
          · rw [← hU, pk_un (by omega), pk_un (by omega), pk_us]
        · have e1 : U (12 + c) = y 15 (12 + c) := by rw [← hU, pk_un (by omega), pk_un (by omega), pk_un (by omega)]
          have e2 : U (18 + c) = y 15 (18 + c) := by rw [← hU, pk_un (by omega), pk_un (by omega), pk_un (by omega)]
          have e3 : U (30 + c) = y 15 (30 + c) := by rw [← hU, pk_un (by omega), pk_un (by omega), pk_un (by omega)]
          rw [e1, e2, e3]
          refine ⟨fun ⟨m, hm, em⟩ => ?_, fun n => ?_⟩
          · have : m ≠ j := fun z => by
              rw [z, wc] at em
              exact e ((nI_eq (by omega) (by omega)).mp em).symm
            exact (hC c hc).1 ⟨m, by omega, em⟩
          · exact (hC c hc).2 (fun ⟨m, hm, em⟩ => n ⟨m, by omega, em⟩)
      · show gsX_X1_passDay_1_L15 NF v (fu + 1) (nI j) v y = gsX_X1_passDay_1_L15 NF v fu (nI (j + 1)) v (upd2 y 15 U)
        have we : gsX_X1_weather_1 NF (nI c0) 0 v y = (v, upd2 y 15 U) := we
        simp only [gsX_X1_passDay_1_L15, a1, yw, wc, we, nI_1]
        rw [if_neg (show ¬ nI a ≤ nI j from nI_ge hj (by omega))]
  · intro fu s hs
    obtain ⟨y, rfl, hF, hC⟩ := hs
    refine ⟨y, hF, hC, ?_⟩
    show gsX_X1_passDay_1_L15 NF v (fu + 1) (nI a) v y = _
    simp only [gsX_X1_passDay_1_L15, a1, cN42]
    rw [if_pos (show nI a ≤ nI a from nI_le (Nat.le_refl _) (by omega))]
theorem xWeat1_1 (a1 : v 31 = nI a) (a3 : a ≤ 6) (b1 : v 32 = nI b) (b3 : b ≤ 6) (hw : ∀ m, m < a → F 15 (6 + m) = -1 ∨ ∃ c, c < b ∧ F 15 (6 + m) = nI c) (hi : ∀ m m', m < a → m' < a → F 15 (6 + m) = F 15 (6 + m') → ¬ F 15 (6 + m) = -1 → m = m') (hN : ∀ c, c < b → NBx 99 (F 15 (12 + c)) ∧ NBx 99 (F 15 (18 + c)) ∧ NBx 99 (F 15 (30 + c))) : ∃ F' : Nat → Nat → Int32, (∀ q, q ≠ 15 → F' q = F q) ∧ WTH 1 b (fun c => ∃ m, m < a ∧ F 15 (6 + m) = nI c) (F 15) (F' 15) ∧ gsX_X1_passDay_1_L56 NF v (4294967296 + NF) 0 v F = gsX_X1_passDay_1_L62 NF v (4294967296 + NF) 0 0 v (upd2 F' 15 (upd (F' 15) 42 (F' 15 42 + 1))) := by
  refine lpQ (S := SX) (fun fu i s => gsX_X1_passDay_1_L56 NF v fu i s.1 s.2) (fun r => ∃ F' : Nat → Nat → Int32, (∀ q, q ≠ 15 → F' q = F q) ∧ WTH 1 b (fun c => ∃ m, m < a ∧ F 15 (6 + m) = nI c) (F 15) (F' 15) ∧ r = gsX_X1_passDay_1_L62 NF v (4294967296 + NF) 0 0 v (upd2 F' 15 (upd (F' 15) 42 (F' 15 42 + 1)))) (fun j s => ∃ F' : Nat → Nat → Int32, s = (v, F') ∧ (∀ q, q ≠ 15 → F' q = F q) ∧ WTH 1 b (fun c => ∃ m, m < j ∧ F 15 (6 + m) = nI c) (F 15) (F' 15)) a ?_ ?_ a 0 (4294967296 + NF) (v, F) (by omega) (by omega) ⟨F, rfl, fun q _ => rfl, fun k _ => rfl, fun c hc => ⟨fun ⟨m, hm, _⟩ => absurd hm (Nat.not_lt_zero _), fun _ => ⟨rfl, rfl, rfl⟩⟩⟩
  · intro fu j s hj hs
    obtain ⟨y, rfl, hF, hO, hC⟩ := hs
    have yw : gsX_X1_wears_1 NF (nI j) v y = F 15 (6 + j) := (xWears1 a1 a3 hj).trans (hO (6 + j) (by omega))
    rcases hw j hj with wn | ⟨c0, hc0, wc⟩
    · refine Or.inl ⟨(v, y), ⟨y, rfl, hF, hO, fun c hc => ⟨fun ⟨m, hm, em⟩ => ?_, fun n => ?_⟩⟩, ?_⟩
      · have : m ≠ j := fun z => by rw [z, wn] at em; exact nI_nm1 (show c < 2 ^ 31 by omega) em.symm
        exact (hC c hc).1 ⟨m, by omega, em⟩
      · exact (hC c hc).2 (fun ⟨m, hm, em⟩ => n ⟨m, by omega, em⟩)
      · show gsX_X1_passDay_1_L56 NF v (fu + 1) (nI j) v y = gsX_X1_passDay_1_L56 NF v fu (nI (j + 1)) v y
        simp only [gsX_X1_passDay_1_L56, a1, yw, wn, xWeat01 (NF := NF) (F := y) b1 b3, nI_1]
        rw [if_neg (show ¬ nI a ≤ nI j from nI_ge hj (by omega))]
    · have fresh : ¬ ∃ m, m < j ∧ F 15 (6 + m) = nI c0 := fun ⟨m, hm, em⟩ => by
        have := hi m j (by omega) hj (em.trans wc.symm) (by rw [em]; exact nI_nm1 (by omega))
        omega
      obtain ⟨o1, o2, o3⟩ := (hC c0 hc0).2 fresh
      obtain ⟨b12, b18, b30⟩ := hN c0 hc0
      have we := xWeat11 (NF := NF) (v := v) (F := y) (z := 1) b1 b3 hc0 (by decide) (by rw [o1]; exact b12) (by rw [o2]; exact b18) (by rw [o3]; exact b30)
      rw [o1, o2, o3] at we
      generalize hU : upd (upd (upd (y 15) (30 + c0) (nI (min 99 (nv (F 15 (30 + c0)) + 1)))) (18 + c0) (nI (nv (F 15 (18 + c0)) - 1))) (12 + c0) (nI (nv (F 15 (12 + c0)) - 1)) = U at we
      refine Or.inl ⟨(v, upd2 y 15 U), ⟨_, rfl, fun q hq => (u2n hq).trans (hF q hq), fun k hk => ?_, fun c hc => ?_⟩, ?_⟩
      · show U k = _
        rw [← hU, pk_un (by omega), pk_un (by omega), pk_un (by omega)]
        exact hO k hk
      · show (_ → U (12 + c) = _ ∧ U (18 + c) = _ ∧ U (30 + c) = _) ∧ (_ → U (12 + c) = _ ∧ U (18 + c) = _ ∧ U (30 + c) = _)
        by_cases e : c = c0
        · subst e
          refine ⟨fun _ => ⟨?_, ?_, ?_⟩, fun n => absurd ⟨j, by omega, wc⟩ n⟩
          · rw [← hU, pk_us]
          · rw [← hU, pk_un (by omega), pk_us]
          · rw [← hU, pk_un (by omega), pk_un (by omega), pk_us]
        · have e1 : U (12 + c) = y 15 (12 + c) := by rw [← hU, pk_un (by omega), pk_un (by omega), pk_un (by omega)]
          have e2 : U (18 + c) = y 15 (18 + c) := by rw [← hU, pk_un (by omega), pk_un (by omega), pk_un (by omega)]
          have e3 : U (30 + c) = y 15 (30 + c) := by rw [← hU, pk_un (by omega), pk_un (by omega), pk_un (by omega)]
          rw [e1, e2, e3]
          refine ⟨fun ⟨m, hm, em⟩ => ?_, fun n => ?_⟩
          · have : m ≠ j := fun z => by
              rw [z, wc] at em
              exact e ((nI_eq (by omega) (by omega)).mp em).symm
            exact (hC c hc).1 ⟨m, by omega, em⟩
          · exact (hC c hc).2 (fun ⟨m, hm, em⟩ => n ⟨m, by omega, em⟩)
      · show gsX_X1_passDay_1_L56 NF v (fu + 1) (nI j) v y = gsX_X1_passDay_1_L56 NF v fu (nI (j + 1)) v (upd2 y 15 U)
        have we : gsX_X1_weather_1 NF (nI c0) 1 v y = (v, upd2 y 15 U) := we
        simp only [gsX_X1_passDay_1_L56, a1, yw, wc, we, nI_1]
        rw [if_neg (show ¬ nI a ≤ nI j from nI_ge hj (by omega))]
  · intro fu s hs
    obtain ⟨y, rfl, hF, hC⟩ := hs
    refine ⟨y, hF, hC, ?_⟩
    show gsX_X1_passDay_1_L56 NF v (fu + 1) (nI a) v y = _
    simp only [gsX_X1_passDay_1_L56, a1, cN42]
    rw [if_pos (show nI a ≤ nI a from nI_le (Nat.le_refl _) (by omega))]
end
section
variable {v1 : Nat → Int32} {F1 : Nat → Nat → Int32} {w1 : Int64} {g : Nat → Int64} {a b : Nat}
theorem yGrow {p1 : Int32} (a2 : v1 24 = nI a) (a3 : a ≤ 6) (hW : ∀ m, m < a → NBx 99 (F1 24 m)) (hG : ∀ m, m < a → NBx 9 (F1 18 m)) : ∃ F' : Nat → Nat → Int32, (∀ q, q ≠ 24 → F' q = F1 q) ∧ (∀ k, ¬ k < a → F' 24 k = F1 24 k) ∧ (∀ m, m < a → F' 24 m = nI (min 99 (nv (F1 24 m) + nv (F1 18 m)))) ∧ gsY_X11_goDay_1 NF p1 v1 F1 w1 g = gsY_X11_goDay_1_L5 NF p1 v1 (4294967296 + NF) 0 v1 F' w1 g := by
  refine lpQ (S := SY) (fun fu i s => gsY_X11_goDay_1_L1 NF p1 v1 fu i s.1 s.2.1 s.2.2.1 s.2.2.2) (fun r => ∃ F' : Nat → Nat → Int32, (∀ q, q ≠ 24 → F' q = F1 q) ∧ (∀ k, ¬ k < a → F' 24 k = F1 24 k) ∧ (∀ m, m < a → F' 24 m = nI (min 99 (nv (F1 24 m) + nv (F1 18 m)))) ∧ r = gsY_X11_goDay_1_L5 NF p1 v1 (4294967296 + NF) 0 v1 F' w1 g) (fun j s => ∃ F' : Nat → Nat → Int32, s = (v1, F', w1, g) ∧ (∀ q, q ≠ 24 → F' q = F1 q) ∧ (∀ k, ¬ k < j → F' 24 k = F1 24 k) ∧ (∀ m, m < j → F' 24 m = nI (min 99 (nv (F1 24 m) + nv (F1 18 m))))) a ?_ ?_ a 0 (4294967296 + NF) (v1, F1, w1, g) (by omega) (by omega) ⟨F1, rfl, fun q _ => rfl, fun i _ => rfl, fun k hk => absurd hk (Nat.not_lt_zero _)⟩
  · intro fu j s hj hs
    obtain ⟨y, rfl, hF, hO, hK⟩ := hs
    obtain ⟨q1, q2⟩ := (hW j hj).nat (by decide)
    obtain ⟨g1, g2⟩ := (hG j hj).nat (by decide)
    have yj : y 24 j = nI (nv (F1 24 j)) := (hO j (by omega)).trans q2
    have yg : y 18 j = nI (nv (F1 18 j)) := (congrFun (hF 18 (by decide)) _).trans g2
    refine Or.inl ⟨(v1, upd2 y 24 (upd (y 24) j (nI (min 99 (nv (F1 24 j) + nv (F1 18 j))))), w1, g), ⟨_, rfl, fun q hq => (u2n hq).trans (hF q hq), fun k hk => ?_, fun m hm => ?_⟩, ?_⟩
    · show upd (y 24) j _ k = _
      rw [pk_un (by omega)]; exact hO k (by omega)
    · show upd (y 24) j _ m = _
      by_cases e : m = j
      · rw [e, pk_us]
      · rw [pk_un e]; exact hK m (by omega)
    · show gsY_X11_goDay_1_L1 NF p1 v1 (fu + 1) (nI j) v1 y w1 g = gsY_X11_goDay_1_L1 NF p1 v1 fu (nI (j + 1)) v1 _ w1 g
      simp only [gsY_X11_goDay_1_L1, a2, nI_clamp (show j < 2 ^ 31 by omega), yj, yg, nI_add, nI_1, les99 (NF := NF) (show nv (F1 24 j) + nv (F1 18 j) < 2 ^ 31 by omega)]
      rw [if_neg (show ¬ nI a ≤ nI j from nI_ge hj (by omega))]
  · intro fu s hs
    obtain ⟨y, rfl, hF, hO, hK⟩ := hs
    refine ⟨y, hF, hO, hK, ?_⟩
    show gsY_X11_goDay_1_L1 NF p1 v1 (fu + 1) (nI a) v1 y w1 g = _
    simp only [gsY_X11_goDay_1_L1, a2]
    rw [if_pos (show nI a ≤ nI a from nI_le (Nat.le_refl _) (by omega))]
def yAft (NF : Nat) (v1 : Nat → Int32) (F1 : Nat → Nat → Int32) (w1 : Int64) (g : Nat → Int64) : Int32 × (Nat → Int32) × (Nat → Nat → Int32) × Int64 × (Nat → Int64) :=
  match gsY_X11_fittedOnes_1 NF v1 F1 w1 g with
  | (r14, v16, f17, w18, g19) => gsY_X11_goDay_1_L22 NF v1 (gsY_X11_wearers_1 NF v1 F1 w1 g &&& (r14 ^^^ (-1))) (4294967296 + NF) 0 v16 f17 w18 g19
theorem yWeat {z : Nat} (hz : z ≤ 1) (a2 : v1 24 = nI a) (a3 : a ≤ 6) (b2 : v1 25 = nI b) (b3 : b ≤ 6) (hN : ∀ c, c < b → NBx 99 (F1 24 (12 + c)) ∧ NBx 99 (F1 24 (18 + c)) ∧ NBx 99 (F1 24 (30 + c))) : ∃ F' : Nat → Nat → Int32, (∀ q, q ≠ 24 → F' q = F1 q) ∧ WTH z b (fun c => ∃ m, m < a ∧ F1 24 (6 + m) = nI c) (F1 24) (F' 24) ∧ gsY_X11_goDay_1_L5 NF (nI z) v1 (4294967296 + NF) 0 v1 F1 w1 g = yAft NF v1 (upd2 F' 24 (upd (F' 24) 37 (F' 24 37 + 1))) w1 g := by
  refine lpQ (S := SY) (fun fu i s => gsY_X11_goDay_1_L5 NF (nI z) v1 fu i s.1 s.2.1 s.2.2.1 s.2.2.2) (fun r => ∃ F' : Nat → Nat → Int32, (∀ q, q ≠ 24 → F' q = F1 q) ∧ WTH z b (fun c => ∃ m, m < a ∧ F1 24 (6 + m) = nI c) (F1 24) (F' 24) ∧ r = yAft NF v1 (upd2 F' 24 (upd (F' 24) 37 (F' 24 37 + 1))) w1 g) (fun j s => ∃ F' : Nat → Nat → Int32, s = (v1, F', w1, g) ∧ (∀ q, q ≠ 24 → F' q = F1 q) ∧ WTH z b (fun c => c < j ∧ ∃ m, m < a ∧ F1 24 (6 + m) = nI c) (F1 24) (F' 24)) b ?_ ?_ b 0 (4294967296 + NF) (v1, F1, w1, g) (by omega) (by omega) ⟨F1, rfl, fun q _ => rfl, fun k _ => rfl, fun c hc => ⟨fun h => absurd h.1 (Nat.not_lt_zero _), fun _ => ⟨rfl, rfl, rfl⟩⟩⟩
  · intro fu j s hj hs
    obtain ⟨y, rfl, hF, hO, hC⟩ := hs
    obtain ⟨o1, o2, o3⟩ := (hC j hj).2 (fun h => absurd h.1 (Nat.lt_irrefl _))
    obtain ⟨b12, b18, b30⟩ := hN j hj
    obtain ⟨p1, p2⟩ := b12.nat (by decide)
    obtain ⟨p3, p4⟩ := b18.nat (by decide)
    obtain ⟨p5, p6⟩ := b30.nat (by decide)
    have yw : ∀ k, k < a → y 24 (6 + k) = F1 24 (6 + k) := fun k hk => hO _ (by omega)
    rcases yWearer (NF := NF) (f1 := y) (w1 := w1) (g := g) (q := nI j) a2 a3 with ⟨m, m1, m2, m3⟩ | ⟨n1, n2⟩
    · have hm : ∃ m, m < a ∧ F1 24 (6 + m) = nI j := ⟨m, m1, (yw m m1).symm.trans m2⟩
      generalize hU : upd (upd (upd (y 24) (30 + j) (nI (min 99 (nv (F1 24 (30 + j)) + 1)))) (12 + j) (nI (nv (F1 24 (12 + j)) - z))) (18 + j) (nI (nv (F1 24 (18 + j)) - z)) = U
      refine Or.inl ⟨(v1, upd2 y 24 U, w1, g), ⟨_, rfl, fun q hq => (u2n hq).trans (hF q hq), fun k hk => ?_, fun c hc => ?_⟩, ?_⟩
      · show U k = _
        rw [← hU, pk_un (by omega), pk_un (by omega), pk_un (by omega)]
        exact hO k hk
      · show (_ → U (12 + c) = _ ∧ U (18 + c) = _ ∧ U (30 + c) = _) ∧ (_ → U (12 + c) = _ ∧ U (18 + c) = _ ∧ U (30 + c) = _)
        by_cases e : c = j
        · subst e
          refine ⟨fun _ => ⟨?_, ?_, ?_⟩, fun n => absurd ⟨by omega, hm⟩ n⟩
          · rw [← hU, pk_un (by omega), pk_us]
          · rw [← hU, pk_us]
          · rw [← hU, pk_un (by omega), pk_un (by omega), pk_us]
        · have e1 : U (12 + c) = y 24 (12 + c) := by rw [← hU, pk_un (by omega), pk_un (by omega), pk_un (by omega)]
          have e2 : U (18 + c) = y 24 (18 + c) := by rw [← hU, pk_un (by omega), pk_un (by omega), pk_un (by omega)]
          have e3 : U (30 + c) = y 24 (30 + c) := by rw [← hU, pk_un (by omega), pk_un (by omega), pk_un (by omega)]
          rw [e1, e2, e3]
          exact ⟨fun h => (hC c hc).1 ⟨by omega, h.2⟩, fun n => (hC c hc).2 (fun h => n ⟨by omega, h.2⟩)⟩
      · show gsY_X11_goDay_1_L5 NF (nI z) v1 (fu + 1) (nI j) v1 y w1 g = gsY_X11_goDay_1_L5 NF (nI z) v1 fu (nI (j + 1)) v1 (upd2 y 24 U) w1 g
        have tr : ∀ (A : Nat → Nat → Int32), gsY_X11_truth_1 NF (nI z) v1 A w1 g = nI z := fun A => by
          rcases (show z = 0 ∨ z = 1 by omega) with e | e <;> (subst e; rfl)
        have k30 : (30 : Int32) + nI j = nI (30 + j) := nI_add 30 j
        have k12 : (12 : Int32) + nI j = nI (12 + j) := nI_add 12 j
        have k18 : (18 : Int32) + nI j = nI (18 + j) := nI_add 18 j
        have c30 : (nI (30 + j)).toNatClampNeg = 30 + j := nI_clamp (by omega)
        have c12 : (nI (12 + j)).toNatClampNeg = 12 + j := nI_clamp (by omega)
        have c18 : (nI (18 + j)).toNatClampNeg = 18 + j := nI_clamp (by omega)
        have u1 : ∀ (X : Nat → Int32) (q : Int32), upd X (30 + j) q (12 + j) = X (12 + j) := fun X q => pk_un (by omega)
        have u2 : ∀ (X : Nat → Int32) (q : Int32), upd X (30 + j) q (18 + j) = X (18 + j) := fun X q => pk_un (by omega)
        have u3 : ∀ (X : Nat → Int32) (q : Int32), upd X (12 + j) q (18 + j) = X (18 + j) := fun X q => pk_un (by omega)
        simp only [gsY_X11_goDay_1_L5, b2, m3, k30, k12, k18, c30, c12, c18, tr, u2s, u1, u2, u3, o1, o2, o3]
        rw [if_neg (show ¬ nI b ≤ nI j from nI_ge hj (by omega)), if_pos (nI_pos' (show m < 2 ^ 31 by omega)), p2, p4, p6]
        simp only [nI_1, les99 (NF := NF) (show nv (F1 24 (30 + j)) + 1 < 2 ^ 31 by omega), gre0 (NF := NF) (show nv (F1 24 (12 + j)) < 2 ^ 31 by omega) hz, gre0 (NF := NF) (show nv (F1 24 (18 + j)) < 2 ^ 31 by omega) hz, upd2_2]
        first | rw [← hU] | (rw [← hU, ← p2, ← p4, ← p6])
    · refine Or.inl ⟨(v1, y, w1, g), ⟨y, rfl, hF, hO, fun c hc => ?_⟩, ?_⟩
      · refine ⟨fun h => (hC c hc).1 ⟨?_, h.2⟩, fun n => (hC c hc).2 (fun h => n ⟨by omega, h.2⟩)⟩
        obtain ⟨h1, m, hm, em⟩ := h
        have : c ≠ j := fun q => n1 m hm (by rw [yw m hm, em, q])
        omega
      · show gsY_X11_goDay_1_L5 NF (nI z) v1 (fu + 1) (nI j) v1 y w1 g = gsY_X11_goDay_1_L5 NF (nI z) v1 fu (nI (j + 1)) v1 y w1 g
        simp only [gsY_X11_goDay_1_L5, b2, n2, nI_1]
        rw [if_neg (show ¬ nI b ≤ nI j from nI_ge hj (by omega)), if_neg (show ¬ (0 : Int32) ≤ -1 by decide)]
  · intro fu s hs
    obtain ⟨y, rfl, hF, hO, hC⟩ := hs
    refine ⟨y, hF, ⟨hO, fun c hc => ⟨fun h => (hC c hc).1 ⟨hc, h⟩, fun n => (hC c hc).2 (fun h => n h.2)⟩⟩, ?_⟩
    show gsY_X11_goDay_1_L5 NF (nI z) v1 (fu + 1) (nI b) v1 y w1 g = _
    simp only [gsY_X11_goDay_1_L5, b2, cN37]
    rw [if_pos (show nI b ≤ nI b from nI_le (Nat.le_refl _) (by omega))]
    rfl
end
end
end
section
section
variable {NF : Nat}
def wrB (x : Nat → Int32) (m : Nat) : Bool := decide (¬ x (6 + m) = -1)
def ftB (e : Int32) (r : Nat → Nat → Int32) (x : Nat → Int32) (m : Nat) : Bool := wrB x m && decide (¬ e < r m (nv (x (6 + m))))
def shB (e : Int32) (r : Nat → Nat → Int32) (x : Nat → Int32) (m : Nat) : Bool := wrB x m && !ftB e r x m
theorem wrB_1 {x : Nat → Int32} {m : Nat} (h : ¬ x (6 + m) = -1) : wrB x m = true := decide_eq_true h
theorem wrB_0 {x : Nat → Int32} {m : Nat} (h : x (6 + m) = -1) : wrB x m = false := decide_eq_false (fun z => z h)
theorem nv_nI {c : Nat} (h : c < 2 ^ 31) : nv (nI c) = c := nI_clamp h
section
variable {v1 : Nat → Int32} {F1 : Nat → Nat → Int32} {w1 : Int64} {g : Nat → Int64} {a b : Nat}
theorem yWearers {x : Nat → Int32} (a2 : v1 24 = nI a) (a3 : a ≤ 6) (hw : ∀ m, m < a → F1 24 (6 + m) = x (6 + m) ∧ (x (6 + m) = -1 ∨ ∃ c, c < b ∧ x (6 + m) = nI c)) (b3 : b ≤ 6) : gsY_X11_wearers_1 NF v1 F1 w1 g = nI (bts (wrB x) a) := by
  refine lpQ (S := Int32) (fun fu i s => gsY_X11_wearers_1_L1 NF v1 F1 w1 g fu s i) (fun r => r = nI (bts (wrB x) a)) (fun j s => s = nI (bts (wrB x) j)) a ?_ ?_ a 0 (4294967296 + NF) 0 (by omega) (by omega) rfl
  · intro fu j s hj hs
    have hs : s = nI (bts (wrB x) j) := hs
    obtain ⟨o1, o2⟩ := bts_or (p := wrB x) (n := j) (by omega)
    obtain ⟨q1, q2⟩ := hw j hj
    refine Or.inl ⟨nI (bts (wrB x) (j + 1)), rfl, ?_⟩
    show gsY_X11_wearers_1_L1 NF v1 F1 w1 g (fu + 1) s (nI j) = gsY_X11_wearers_1_L1 NF v1 F1 w1 g fu (nI (bts (wrB x) (j + 1))) (nI (j + 1))
    simp only [gsY_X11_wearers_1_L1, a2, show (6 : Int32) + nI j = nI (6 + j) from nI_add 6 j, nI_clamp (show 6 + j < 2 ^ 31 by omega), q1, nI_1, show gsY_X11_truth_1 NF 0 v1 F1 w1 g = 0 from rfl, show gsY_X11_truth_1 NF 1 v1 F1 w1 g = 1 from rfl, hs]
    rw [if_neg (show ¬ nI a ≤ nI j from nI_ge hj (by omega))]
    rcases q2 with q2 | ⟨c, hc, q2⟩
    · rw [if_pos (show x (6 + j) < 0 by rw [q2]; decide), (o2 (by rw [wrB_0 q2]; decide)).1]
    · rw [if_neg (show ¬ x (6 + j) < 0 by rw [q2]; exact nI_pos (by omega)), o1 (wrB_1 (by rw [q2]; exact nI_nm1 (by omega)))]
  · intro fu s hs
    have hs : s = nI (bts (wrB x) a) := hs
    show gsY_X11_wearers_1_L1 NF v1 F1 w1 g (fu + 1) s (nI a) = _
    simp only [gsY_X11_wearers_1_L1, a2]
    rw [if_pos (nI_le (Nat.le_refl _) (by omega))]
    exact hs
theorem yFitted {v : Nat → Int32} {f : Nat → Nat → Int32} {f1 : Nat → Nat → Int32} {x : Nat → Int32} {D : Nat} (a1 : v 31 = nI a) (a2 : v1 24 = nI a) (a3 : a ≤ 6) (b1 : v 32 = nI b) (b3 : b ≤ 6) (sm : STM f f1 a) (sf : STF v f v1 f1) (es : v 33 = v1 26) (hD : D ≤ 9999) (hF1 : ∀ q, q = 4 ∨ q = 5 ∨ q = 16 → F1 q = f1 q) (hn : CMS D a b x (F1 24)) (hw : ∀ m, m < a → F1 24 (6 + m) = x (6 + m) ∧ (x (6 + m) = -1 ∨ ∃ c, c < b ∧ x (6 + m) = nI c)) : ∃ F' : Nat → Nat → Int32, (∀ q, q ≠ 7 → q ≠ 8 → F' q = F1 q) ∧ gsY_X11_fittedOnes_1 NF v1 F1 w1 g = (nI (bts (ftB (v 33) (yI NF v1 F1 w1 g) x) a), v1, F', w1, g) := by
  refine lpQ (S := Int32 × SY) (fun fu i s => gsY_X11_fittedOnes_1_L1 NF v1 fu s.1 i s.2.1 s.2.2.1 s.2.2.2.1 s.2.2.2.2) (fun r => ∃ F' : Nat → Nat → Int32, (∀ q, q ≠ 7 → q ≠ 8 → F' q = F1 q) ∧ r = (nI (bts (ftB (v 33) (yI NF v1 F1 w1 g) x) a), v1, F', w1, g)) (fun j s => ∃ F' : Nat → Nat → Int32, s = (nI (bts (ftB (v 33) (yI NF v1 F1 w1 g) x) j), v1, F', w1, g) ∧ (∀ q, q ≠ 7 → q ≠ 8 → F' q = F1 q)) a ?_ ?_ a 0 (4294967296 + NF) (0, v1, F1, w1, g) (by omega) (by omega) ⟨F1, rfl, fun q _ _ => rfl⟩
  · intro fu j s hj hs
    obtain ⟨y, rfl, hF⟩ := hs
    obtain ⟨o1, o2⟩ := bts_or (p := ftB (v 33) (yI NF v1 F1 w1 g) x) (n := j) (by omega)
    obtain ⟨q1, q2⟩ := hw j hj
    have y24 : y 24 = F1 24 := hF 24 (by decide) (by decide)
    have k6 : (6 : Int32) + nI j = nI (6 + j) := nI_add 6 j
    have c6 : (nI (6 + j)).toNatClampNeg = 6 + j := nI_clamp (by omega)
    rcases q2 with q2 | ⟨c, hc, q2⟩
    · have w0 := wrB_0 q2
      have fo : gsY_X11_fitsOwn_1 NF (nI j) v1 y w1 g = (0, v1, y, w1, g) := by
        simp only [gsY_X11_fitsOwn_1, k6, c6, y24, q1, q2, gsY_X11_fits_1, if_pos m1_lt, ite01]
      refine Or.inl ⟨(nI (bts (ftB (v 33) (yI NF v1 F1 w1 g) x) (j + 1)), v1, y, w1, g), ⟨y, rfl, hF⟩, ?_⟩
      show gsY_X11_fittedOnes_1_L1 NF v1 (fu + 1) (nI (bts (ftB (v 33) (yI NF v1 F1 w1 g) x) j)) (nI j) v1 y w1 g = gsY_X11_fittedOnes_1_L1 NF v1 fu (nI (bts (ftB (v 33) (yI NF v1 F1 w1 g) x) (j + 1))) (nI (j + 1)) v1 y w1 g
      simp only [gsY_X11_fittedOnes_1_L1, a2, fo, ite01, show gsY_X11_truth_1 NF 0 v1 y w1 g = 0 from rfl, nI_1]
      rw [if_neg (show ¬ nI a ≤ nI j from nI_ge hj (by omega)), (o2 (by unfold ftB; rw [w0, Bool.false_and]; decide)).1]
    · have w1' := wrB_1 (x := x) (m := j) (by rw [q2]; exact nI_nm1 (by omega))
      have ec : nv (x (6 + j)) = c := by rw [q2]; exact nv_nI (by omega)
      obtain ⟨B, i1, i2, i3, _⟩ := illY (NF := NF) (F1 := F1) (F2 := y) (w1 := w1) (g := g) a1 a3 b1 b3 sm sf hD hF1 (fun q hq => (hF q (by omega) (by omega)).trans (hF1 q hq)) hn (by rw [y24]; exact hn) hj hc
      have fo : gsY_X11_fitsOwn_1 NF (nI j) v1 y w1 g = ((if v1 26 < yI NF v1 F1 w1 g j c then 0 else 1), v1, B, w1, g) := by
        simp only [gsY_X11_fitsOwn_1, k6, c6, y24, q1, q2, i2]
        by_cases z : v1 26 < yI NF v1 F1 w1 g j c
        · rw [if_pos z]; exact ite01
        · rw [if_neg z]; first | exact ite11 | exact if_pos trivial
      have hB : ∀ q, q ≠ 7 → q ≠ 8 → B q = F1 q := fun q z1 z2 => (i3 q z1 z2).trans (hF q z1 z2)
      refine Or.inl ⟨(nI (bts (ftB (v 33) (yI NF v1 F1 w1 g) x) (j + 1)), v1, B, w1, g), ⟨B, rfl, hB⟩, ?_⟩
      show gsY_X11_fittedOnes_1_L1 NF v1 (fu + 1) (nI (bts (ftB (v 33) (yI NF v1 F1 w1 g) x) j)) (nI j) v1 y w1 g = gsY_X11_fittedOnes_1_L1 NF v1 fu (nI (bts (ftB (v 33) (yI NF v1 F1 w1 g) x) (j + 1))) (nI (j + 1)) v1 B w1 g
      simp only [gsY_X11_fittedOnes_1_L1, a2, fo, show gsY_X11_truth_1 NF 0 v1 B w1 g = 0 from rfl, show gsY_X11_truth_1 NF 1 v1 B w1 g = 1 from rfl, nI_1]
      rw [if_neg (show ¬ nI a ≤ nI j from nI_ge hj (by omega))]
      have ef : ftB (v 33) (yI NF v1 F1 w1 g) x j = decide (¬ v 33 < yI NF v1 F1 w1 g j c) := by
        unfold ftB; rw [w1', ec, Bool.true_and]
      by_cases z : v1 26 < yI NF v1 F1 w1 g j c
      · rw [if_pos z, ite01, (o2 (by rw [ef, decide_eq_false (fun q => q (by rw [es]; exact z))]; decide)).1]
      · rw [if_neg z, ite11, o1 (by rw [ef, decide_eq_true (by rw [es]; exact z)])]
  · intro fu s hs
    obtain ⟨y, rfl, hF⟩ := hs
    refine ⟨y, hF, ?_⟩
    show gsY_X11_fittedOnes_1_L1 NF v1 (fu + 1) (nI (bts (ftB (v 33) (yI NF v1 F1 w1 g) x) a)) (nI a) v1 y w1 g = _
    simp only [gsY_X11_fittedOnes_1_L1, a2]
    rw [if_pos (nI_le (Nat.le_refl _) (by omega))]
theorem yShed {p : Nat → Bool} (a2 : v1 24 = nI a) (a3 : a ≤ 6) {vv : Nat → Int32} (av : vv 24 = nI a) : ∃ F' : Nat → Nat → Int32, (∀ q, q ≠ 24 → F' q = F1 q) ∧ (∀ k, ¬ (6 ≤ k ∧ k < 6 + a) → F' 24 k = F1 24 k) ∧ (∀ m, m < a → F' 24 (6 + m) = if p m = true then -1 else F1 24 (6 + m)) ∧ gsY_X11_goDay_1_L22 NF vv (nI (bts p a)) (4294967296 + NF) 0 v1 F1 w1 g = (nI (bts p a), v1, F', w1, g) := by
  have b64 : bts p a < 64 := by
    have h := bts_lt p a a3
    have h' := p2le a a3
    omega
  refine lpQ (S := SY) (fun fu i s => gsY_X11_goDay_1_L22 NF vv (nI (bts p a)) fu i s.1 s.2.1 s.2.2.1 s.2.2.2) (fun r => ∃ F' : Nat → Nat → Int32, (∀ q, q ≠ 24 → F' q = F1 q) ∧ (∀ k, ¬ (6 ≤ k ∧ k < 6 + a) → F' 24 k = F1 24 k) ∧ (∀ m, m < a → F' 24 (6 + m) = if p m = true then -1 else F1 24 (6 + m)) ∧ r = (nI (bts p a), v1, F', w1, g)) (fun j s => ∃ F' : Nat → Nat → Int32, s = (v1, F', w1, g) ∧ (∀ q, q ≠ 24 → F' q = F1 q) ∧ (∀ k, ¬ (6 ≤ k ∧ k < 6 + j) → F' 24 k = F1 24 k) ∧ (∀ m, m < j → F' 24 (6 + m) = if p m = true then -1 else F1 24 (6 + m))) a ?_ ?_ a 0 (4294967296 + NF) (v1, F1, w1, g) (by omega) (by omega) ⟨F1, rfl, fun q _ => rfl, fun i _ => rfl, fun k hk => absurd hk (Nat.not_lt_zero _)⟩
  · intro fu j s hj hs
    obtain ⟨y, rfl, hF, hO, hK⟩ := hs
    obtain ⟨B1, _⟩ := bitT (bts p a) b64 j (by omega)
    rw [bts_bit p a a3 j hj] at B1
    by_cases c : p j = true
    · rw [if_pos c] at B1
      refine Or.inl ⟨(v1, upd2 y 24 (upd (y 24) (6 + j) (-1)), w1, g), ⟨_, rfl, fun q hq => (u2n hq).trans (hF q hq), fun k hk => ?_, fun m hm => ?_⟩, ?_⟩
      · show upd (y 24) (6 + j) (-1) k = _
        rw [pk_un (by omega)]; exact hO k (by omega)
      · show upd (y 24) (6 + j) (-1) (6 + m) = _
        by_cases e : m = j
        · rw [e, pk_us, if_pos c]
        · rw [pk_un (by omega)]; exact hK m (by omega)
      · show gsY_X11_goDay_1_L22 NF vv (nI (bts p a)) (fu + 1) (nI j) v1 y w1 g = gsY_X11_goDay_1_L22 NF vv (nI (bts p a)) fu (nI (j + 1)) v1 _ w1 g
        simp only [gsY_X11_goDay_1_L22, av, B1, show (6 : Int32) + nI j = nI (6 + j) from nI_add 6 j, nI_clamp (show 6 + j < 2 ^ 31 by omega), nI_1]
        rw [if_neg (show ¬ nI a ≤ nI j from nI_ge hj (by omega)), if_pos (show nI 1 = (1 : Int32) from rfl)]
    · rw [if_neg c] at B1
      refine Or.inl ⟨(v1, y, w1, g), ⟨y, rfl, hF, fun k hk => hO k (by omega), fun m hm => ?_⟩, ?_⟩
      · by_cases e : m = j
        · rw [e, if_neg c]; exact hO _ (by omega)
        · exact hK m (by omega)
      · show gsY_X11_goDay_1_L22 NF vv (nI (bts p a)) (fu + 1) (nI j) v1 y w1 g = gsY_X11_goDay_1_L22 NF vv (nI (bts p a)) fu (nI (j + 1)) v1 y w1 g
        simp only [gsY_X11_goDay_1_L22, av, B1, nI_1]
        rw [if_neg (show ¬ nI a ≤ nI j from nI_ge hj (by omega)), if_neg (show ¬ nI 0 = (1 : Int32) by decide)]
  · intro fu s hs
    obtain ⟨y, rfl, hF, hO, hK⟩ := hs
    refine ⟨y, hF, hO, hK, ?_⟩
    show gsY_X11_goDay_1_L22 NF vv (nI (bts p a)) (fu + 1) (nI a) v1 y w1 g = _
    simp only [gsY_X11_goDay_1_L22, av]
    rw [if_pos (nI_le (Nat.le_refl _) (by omega))]
end
theorem xShed1_21 {v : Nat → Int32} {f F : Nat → Nat → Int32} {v1 : Nat → Int32} {f1 F1 : Nat → Nat → Int32} {w1 : Int64} {g : Nat → Int64} {a b D : Nat} (a1 : v 31 = nI a) (a3 : a ≤ 6) (b1 : v 32 = nI b) (b3 : b ≤ 6) (sm : STM f f1 a) (sf : STF v f v1 f1) (hD : D ≤ 9999) (hF : ∀ q, q = 9 ∨ q = 11 ∨ q = 12 → F q = f q) (hF1 : ∀ q, q = 4 ∨ q = 5 ∨ q = 16 → F1 q = f1 q) (hn : CMS D a b (F 15) (F1 24)) (hw : ∀ m, m < a → F 15 (6 + m) = -1 ∨ ∃ c, c < b ∧ F 15 (6 + m) = nI c) : ∃ F' : Nat → Nat → Int32, (∀ q, q ≠ 13 → q ≠ 14 → q ≠ 15 → F' q = F q) ∧ (∀ k, ¬ (6 ≤ k ∧ k < 6 + a) → F' 15 k = F 15 k) ∧ (∀ m, m < a → F' 15 (6 + m) = if shB (v 33) (yI NF v1 F1 w1 g) (F 15) m = true then -1 else F 15 (6 + m)) ∧ gsX_X1_passDay_1_L21 NF v (4294967296 + NF) 0 0 v F = (nI (bts (shB (v 33) (yI NF v1 F1 w1 g) (F 15)) a), v, F') := by
  refine lpQ (S := Int32 × SX) (fun fu i s => gsX_X1_passDay_1_L21 NF v fu s.1 i s.2.1 s.2.2) (fun r => ∃ F' : Nat → Nat → Int32, (∀ q, q ≠ 13 → q ≠ 14 → q ≠ 15 → F' q = F q) ∧ (∀ k, ¬ (6 ≤ k ∧ k < 6 + a) → F' 15 k = F 15 k) ∧ (∀ m, m < a → F' 15 (6 + m) = if shB (v 33) (yI NF v1 F1 w1 g) (F 15) m = true then -1 else F 15 (6 + m)) ∧ r = (nI (bts (shB (v 33) (yI NF v1 F1 w1 g) (F 15)) a), v, F')) (fun j s => ∃ F' : Nat → Nat → Int32, s = (nI (bts (shB (v 33) (yI NF v1 F1 w1 g) (F 15)) j), v, F') ∧ (∀ q, q ≠ 13 → q ≠ 14 → q ≠ 15 → F' q = F q) ∧ (∀ k, ¬ (6 ≤ k ∧ k < 6 + j) → F' 15 k = F 15 k) ∧ (∀ m, m < j → F' 15 (6 + m) = if shB (v 33) (yI NF v1 F1 w1 g) (F 15) m = true then -1 else F 15 (6 + m))) a ?_ ?_ a 0 (4294967296 + NF) (0, v, F) (by omega) (by omega) ⟨F, rfl, fun q _ _ _ => rfl, fun i _ => rfl, fun k hk => absurd hk (Nat.not_lt_zero _)⟩
  · intro fu j s hj hs
    obtain ⟨y, rfl, hY, hO, hK⟩ := hs
    obtain ⟨o1, o2⟩ := bts_or (p := shB (v 33) (yI NF v1 F1 w1 g) (F 15)) (n := j) (by omega)
    have yw : gsX_X1_wears_1 NF (nI j) v y = F 15 (6 + j) := (xWears1 a1 a3 hj).trans (hO (6 + j) (by omega))
    rcases hw j hj with q2 | ⟨c, hc, q2⟩
    · have w0 := wrB_0 q2
      have s0 : ¬ shB (v 33) (yI NF v1 F1 w1 g) (F 15) j = true := by unfold shB; rw [w0, Bool.false_and]; decide
      refine Or.inl ⟨(nI (bts (shB (v 33) (yI NF v1 F1 w1 g) (F 15)) (j + 1)), v, y), ⟨y, rfl, hY, fun k hk => hO k (by omega), fun m hm => ?_⟩, ?_⟩
      · by_cases e : m = j
        · rw [e, if_neg s0]; exact hO _ (by omega)
        · exact hK m (by omega)
      · show gsX_X1_passDay_1_L21 NF v (fu + 1) (nI (bts (shB (v 33) (yI NF v1 F1 w1 g) (F 15)) j)) (nI j) v y = gsX_X1_passDay_1_L21 NF v fu (nI (bts (shB (v 33) (yI NF v1 F1 w1 g) (F 15)) (j + 1))) (nI (j + 1)) v y
        rw [← (o2 s0).2]
        conv => lhs; unfold gsX_X1_passDay_1_L21
        simp only [a1, yw, q2, nI_1]
        rw [if_neg (show ¬ nI a ≤ nI j from nI_ge hj (by omega)), if_pos trivial]
    · have w1' := wrB_1 (x := F 15) (m := j) (by rw [q2]; exact nI_nm1 (by omega))
      have ec : nv (F 15 (6 + j)) = c := by rw [q2]; exact nv_nI (by omega)
      have nm : ¬ nI c = -1 := nI_nm1 (by omega)
      have hn' : CMS D a b (y 15) (F1 24) := hn.cg a3 b3 (fun k hk => hO k (by omega)) (fun k _ => rfl)
      obtain ⟨B, i1, i2, i3⟩ := fitX1 (NF := NF) (v1 := v1) (F1 := F1) (w1 := w1) (g := g) a1 a3 b1 b3 sm sf hD (fun q hq => (hY q (by omega) (by omega) (by omega)).trans (hF q hq)) hF1 hn' hj hc
      have ef : shB (v 33) (yI NF v1 F1 w1 g) (F 15) j = !decide (¬ v 33 < yI NF v1 F1 w1 g j c) := by
        unfold shB ftB; rw [w1', ec, Bool.true_and, Bool.true_and]
      by_cases z : v 33 < yI NF v1 F1 w1 g j c
      · have s1 : shB (v 33) (yI NF v1 F1 w1 g) (F 15) j = true := by rw [ef, decide_eq_false (fun q => q z)]; decide
        rw [if_pos z] at i2
        have sw : gsX_X1_setWears_1 NF (nI j) (-1) v B = (v, upd2 B 15 (upd (B 15) (6 + j) (-1))) := xSetW1 a1 a3 hj
        have bA : B 15 = y 15 := i3 15 (by decide) (by decide)
        refine Or.inl ⟨(nI (bts (shB (v 33) (yI NF v1 F1 w1 g) (F 15)) (j + 1)), v, upd2 B 15 (upd (B 15) (6 + j) (-1))), ⟨_, rfl, fun q z1 z2 z3 => (u2n z3).trans ((i3 q z1 z2).trans (hY q z1 z2 z3)), fun k hk => ?_, fun m hm => ?_⟩, ?_⟩
        · show upd (B 15) (6 + j) (-1) k = _
          rw [pk_un (by omega), bA]; exact hO k (by omega)
        · show upd (B 15) (6 + j) (-1) (6 + m) = _
          by_cases e : m = j
          · rw [e, pk_us, if_pos s1]
          · rw [pk_un (by omega), bA]; exact hK m (by omega)
        · show gsX_X1_passDay_1_L21 NF v (fu + 1) (nI (bts (shB (v 33) (yI NF v1 F1 w1 g) (F 15)) j)) (nI j) v y = gsX_X1_passDay_1_L21 NF v fu (nI (bts (shB (v 33) (yI NF v1 F1 w1 g) (F 15)) (j + 1))) (nI (j + 1)) v _
          rw [← o1 s1]
          conv => lhs; unfold gsX_X1_passDay_1_L21
          simp only [a1, yw, q2, nI_1, if_neg nm, i2, ite01, sw]
          rw [if_neg (show ¬ nI a ≤ nI j from nI_ge hj (by omega))]
      · have s0 : ¬ shB (v 33) (yI NF v1 F1 w1 g) (F 15) j = true := by rw [ef, decide_eq_true z]; decide
        rw [if_neg z] at i2
        have bA : B 15 = y 15 := i3 15 (by decide) (by decide)
        refine Or.inl ⟨(nI (bts (shB (v 33) (yI NF v1 F1 w1 g) (F 15)) (j + 1)), v, B), ⟨B, rfl, fun q z1 z2 z3 => (i3 q z1 z2).trans (hY q z1 z2 z3), fun k hk => by rw [bA]; exact hO k (by omega), fun m hm => ?_⟩, ?_⟩
        · rw [bA]
          by_cases e : m = j
          · rw [e, if_neg s0]; exact hO _ (by omega)
          · exact hK m (by omega)
        · show gsX_X1_passDay_1_L21 NF v (fu + 1) (nI (bts (shB (v 33) (yI NF v1 F1 w1 g) (F 15)) j)) (nI j) v y = gsX_X1_passDay_1_L21 NF v fu (nI (bts (shB (v 33) (yI NF v1 F1 w1 g) (F 15)) (j + 1))) (nI (j + 1)) v B
          rw [← (o2 s0).2]
          conv => lhs; unfold gsX_X1_passDay_1_L21
          simp only [a1, yw, q2, nI_1, if_neg nm, i2, ite11, if_true]
          rw [if_neg (show ¬ nI a ≤ nI j from nI_ge hj (by omega))]
  · intro fu s hs
    obtain ⟨y, rfl, hY, hO, hK⟩ := hs
    refine ⟨y, hY, hO, hK, ?_⟩
    show gsX_X1_passDay_1_L21 NF v (fu + 1) (nI (bts (shB (v 33) (yI NF v1 F1 w1 g) (F 15)) a)) (nI a) v y = _
    simp only [gsX_X1_passDay_1_L21, a1]
    rw [if_pos (nI_le (Nat.le_refl _) (by omega))]
theorem xShed1_62 {v : Nat → Int32} {f F : Nat → Nat → Int32} {v1 : Nat → Int32} {f1 F1 : Nat → Nat → Int32} {w1 : Int64} {g : Nat → Int64} {a b D : Nat} (a1 : v 31 = nI a) (a3 : a ≤ 6) (b1 : v 32 = nI b) (b3 : b ≤ 6) (sm : STM f f1 a) (sf : STF v f v1 f1) (hD : D ≤ 9999) (hF : ∀ q, q = 9 ∨ q = 11 ∨ q = 12 → F q = f q) (hF1 : ∀ q, q = 4 ∨ q = 5 ∨ q = 16 → F1 q = f1 q) (hn : CMS D a b (F 15) (F1 24)) (hw : ∀ m, m < a → F 15 (6 + m) = -1 ∨ ∃ c, c < b ∧ F 15 (6 + m) = nI c) : ∃ F' : Nat → Nat → Int32, (∀ q, q ≠ 13 → q ≠ 14 → q ≠ 15 → F' q = F q) ∧ (∀ k, ¬ (6 ≤ k ∧ k < 6 + a) → F' 15 k = F 15 k) ∧ (∀ m, m < a → F' 15 (6 + m) = if shB (v 33) (yI NF v1 F1 w1 g) (F 15) m = true then -1 else F 15 (6 + m)) ∧ gsX_X1_passDay_1_L62 NF v (4294967296 + NF) 0 0 v F = (nI (bts (shB (v 33) (yI NF v1 F1 w1 g) (F 15)) a), v, F') := by
  refine lpQ (S := Int32 × SX) (fun fu i s => gsX_X1_passDay_1_L62 NF v fu s.1 i s.2.1 s.2.2) (fun r => ∃ F' : Nat → Nat → Int32, (∀ q, q ≠ 13 → q ≠ 14 → q ≠ 15 → F' q = F q) ∧ (∀ k, ¬ (6 ≤ k ∧ k < 6 + a) → F' 15 k = F 15 k) ∧ (∀ m, m < a → F' 15 (6 + m) = if shB (v 33) (yI NF v1 F1 w1 g) (F 15) m = true then -1 else F 15 (6 + m)) ∧ r = (nI (bts (shB (v 33) (yI NF v1 F1 w1 g) (F 15)) a), v, F')) (fun j s => ∃ F' : Nat → Nat → Int32, s = (nI (bts (shB (v 33) (yI NF v1 F1 w1 g) (F 15)) j), v, F') ∧ (∀ q, q ≠ 13 → q ≠ 14 → q ≠ 15 → F' q = F q) ∧ (∀ k, ¬ (6 ≤ k ∧ k < 6 + j) → F' 15 k = F 15 k) ∧ (∀ m, m < j → F' 15 (6 + m) = if shB (v 33) (yI NF v1 F1 w1 g) (F 15) m = true then -1 else F 15 (6 + m))) a ?_ ?_ a 0 (4294967296 + NF) (0, v, F) (by omega) (by omega) ⟨F, rfl, fun q _ _ _ => rfl, fun i _ => rfl, fun k hk => absurd hk (Nat.not_lt_zero _)⟩
  · intro fu j s hj hs
    obtain ⟨y, rfl, hY, hO, hK⟩ := hs
    obtain ⟨o1, o2⟩ := bts_or (p := shB (v 33) (yI NF v1 F1 w1 g) (F 15)) (n := j) (by omega)
    have yw : gsX_X1_wears_1 NF (nI j) v y = F 15 (6 + j) := (xWears1 a1 a3 hj).trans (hO (6 + j) (by omega))
    rcases hw j hj with q2 | ⟨c, hc, q2⟩
    · have w0 := wrB_0 q2
      have s0 : ¬ shB (v 33) (yI NF v1 F1 w1 g) (F 15) j = true := by unfold shB; rw [w0, Bool.false_and]; decide
      refine Or.inl ⟨(nI (bts (shB (v 33) (yI NF v1 F1 w1 g) (F 15)) (j + 1)), v, y), ⟨y, rfl, hY, fun k hk => hO k (by omega), fun m hm => ?_⟩, ?_⟩
      · by_cases e : m = j
        · rw [e, if_neg s0]; exact hO _ (by omega)
        · exact hK m (by omega)
      · show gsX_X1_passDay_1_L62 NF v (fu + 1) (nI (bts (shB (v 33) (yI NF v1 F1 w1 g) (F 15)) j)) (nI j) v y = gsX_X1_passDay_1_L62 NF v fu (nI (bts (shB (v 33) (yI NF v1 F1 w1 g) (F 15)) (j + 1))) (nI (j + 1)) v y
        rw [← (o2 s0).2]
        conv => lhs; unfold gsX_X1_passDay_1_L62
        simp only [a1, yw, q2, nI_1]
        rw [if_neg (show ¬ nI a ≤ nI j from nI_ge hj (by omega)), if_pos trivial]
    · have w1' := wrB_1 (x := F 15) (m := j) (by rw [q2]; exact nI_nm1 (by omega))
      have ec : nv (F 15 (6 + j)) = c := by rw [q2]; exact nv_nI (by omega)
      have nm : ¬ nI c = -1 := nI_nm1 (by omega)
      have hn' : CMS D a b (y 15) (F1 24) := hn.cg a3 b3 (fun k hk => hO k (by omega)) (fun k _ => rfl)
      obtain ⟨B, i1, i2, i3⟩ := fitX1 (NF := NF) (v1 := v1) (F1 := F1) (w1 := w1) (g := g) a1 a3 b1 b3 sm sf hD (fun q hq => (hY q (by omega) (by omega) (by omega)).trans (hF q hq)) hF1 hn' hj hc
      have ef : shB (v 33) (yI NF v1 F1 w1 g) (F 15) j = !decide (¬ v 33 < yI NF v1 F1 w1 g j c) := by
        unfold shB ftB; rw [w1', ec, Bool.true_and, Bool.true_and]
      by_cases z : v 33 < yI NF v1 F1 w1 g j c
      · have s1 : shB (v 33) (yI NF v1 F1 w1 g) (F 15) j = true := by rw [ef, decide_eq_false (fun q => q z)]; decide
        rw [if_pos z] at i2
        have sw : gsX_X1_setWears_1 NF (nI j) (-1) v B = (v, upd2 B 15 (upd (B 15) (6 + j) (-1))) := xSetW1 a1 a3 hj
        have bA : B 15 = y 15 := i3 15 (by decide) (by decide)
        refine Or.inl ⟨(nI (bts (shB (v 33) (yI NF v1 F1 w1 g) (F 15)) (j + 1)), v, upd2 B 15 (upd (B 15) (6 + j) (-1))), ⟨_, rfl, fun q z1 z2 z3 => (u2n z3).trans ((i3 q z1 z2).trans (hY q z1 z2 z3)), fun k hk => ?_, fun m hm => ?_⟩, ?_⟩
        · show upd (B 15) (6 + j) (-1) k = _
          rw [pk_un (by omega), bA]; exact hO k (by omega)
        · show upd (B 15) (6 + j) (-1) (6 + m) = _
          by_cases e : m = j
          · rw [e, pk_us, if_pos s1]
          · rw [pk_un (by omega), bA]; exact hK m (by omega)
        · show gsX_X1_passDay_1_L62 NF v (fu + 1) (nI (bts (shB (v 33) (yI NF v1 F1 w1 g) (F 15)) j)) (nI j) v y = gsX_X1_passDay_1_L62 NF v fu (nI (bts (shB (v 33) (yI NF v1 F1 w1 g) (F 15)) (j + 1))) (nI (j + 1)) v _
          rw [← o1 s1]
          conv => lhs; unfold gsX_X1_passDay_1_L62
          simp only [a1, yw, q2, nI_1, if_neg nm, i2, ite01, sw]
          rw [if_neg (show ¬ nI a ≤ nI j from nI_ge hj (by omega))]
      · have s0 : ¬ shB (v 33) (yI NF v1 F1 w1 g) (F 15) j = true := by rw [ef, decide_eq_true z]; decide
        rw [if_neg z] at i2
        have bA : B 15 = y 15 := i3 15 (by decide) (by decide)
        refine Or.inl ⟨(nI (bts (shB (v 33) (yI NF v1 F1 w1 g) (F 15)) (j + 1)), v, B), ⟨B, rfl, fun q z1 z2 z3 => (i3 q z1 z2).trans (hY q z1 z2 z3), fun k hk => by rw [bA]; exact hO k (by omega), fun m hm => ?_⟩, ?_⟩
        · rw [bA]
          by_cases e : m = j
          · rw [e, if_neg s0]; exact hO _ (by omega)
          · exact hK m (by omega)
        · show gsX_X1_passDay_1_L62 NF v (fu + 1) (nI (bts (shB (v 33) (yI NF v1 F1 w1 g) (F 15)) j)) (nI j) v y = gsX_X1_passDay_1_L62 NF v fu (nI (bts (shB (v 33) (yI NF v1 F1 w1 g) (F 15)) (j + 1))) (nI (j + 1)) v B
          rw [← (o2 s0).2]
          conv => lhs; unfold gsX_X1_passDay_1_L62
          simp only [a1, yw, q2, nI_1, if_neg nm, i2, ite11, if_true]
          rw [if_neg (show ¬ nI a ≤ nI j from nI_ge hj (by omega))]
  · intro fu s hs
    obtain ⟨y, rfl, hY, hO, hK⟩ := hs
    refine ⟨y, hY, hO, hK, ?_⟩
    show gsX_X1_passDay_1_L62 NF v (fu + 1) (nI (bts (shB (v 33) (yI NF v1 F1 w1 g) (F 15)) a)) (nI a) v y = _
    simp only [gsX_X1_passDay_1_L62, a1]
    rw [if_pos (nI_le (Nat.le_refl _) (by omega))]
end
end
section
section
variable {NF : Nat}
def NWS (D a b : Nat) (x y : Nat → Int32) : Prop := NWR D a b (upd x 43 0) (upd y 38 0)
theorem NWR.s {D a b : Nat} {x y : Nat → Int32} (h : NWR D a b x y) (ha : a ≤ 6) (hb : b ≤ 6) : NWS D a b x y := by
  obtain ⟨h1, h2, ⟨T, t1, t2, t3⟩, h4, h5, h6⟩ := h
  refine ⟨fun m hm => ?_, fun c hc => ?_, ⟨T, t1, ?_, fun c hc => ?_⟩, ?_, ?_, fun m m' hm hm' => ?_⟩
  · rw [pk_un (by omega), pk_un (by omega), pk_un (by omega), pk_un (by omega)]; exact h1 m hm
  · rw [pk_un (by omega), pk_un (by omega), pk_un (by omega), pk_un (by omega), pk_un (by omega), pk_un (by omega), pk_un (by omega), pk_un (by omega)]; exact h2 c hc
  · rw [pk_un (by omega)]; exact t2
  · rw [pk_un (by omega)]; exact t3 c hc
  · rw [pk_un (by omega), pk_un (by omega)]; exact h4
  · rw [pk_us, pk_us]; exact ⟨rfl, 0, by omega, rfl⟩
  · rw [pk_un (by omega), pk_un (by omega)]; exact h6 m m' hm hm'
theorem NWS.o {D a b : Nat} {x y : Nat → Int32} (h : NWS D a b x y) (ha : a ≤ 6) (hb : b ≤ 6) : (∀ m, m < a → x m = y m ∧ NBx 99 (x m) ∧ x (6 + m) = y (6 + m) ∧ (x (6 + m) = -1 ∨ ∃ c, c < b ∧ x (6 + m) = nI c)) ∧ (∀ c, c < b → (x (12 + c) = y (12 + c) ∧ NBx 99 (x (12 + c))) ∧ (x (18 + c) = y (18 + c) ∧ NBx 99 (x (18 + c))) ∧ (x (24 + c) = y (24 + c) ∧ NBx 99 (x (24 + c))) ∧ (x (30 + c) = y (30 + c) ∧ NBx 99 (x (30 + c)))) ∧ (∃ T, T < 64 ∧ y 36 = nI T ∧ ∀ c, c < b → x (36 + c) = nI (T / 2 ^ c % 2)) ∧ (x 42 = y 37 ∧ NBx D (x 42)) ∧ (∀ m m', m < a → m' < a → x (6 + m) = x (6 + m') → ¬ x (6 + m) = -1 → m = m') := by
  obtain ⟨h1, h2, ⟨T, t1, t2, t3⟩, h4, h5, h6⟩ := h
  refine ⟨fun m hm => ?_, fun c hc => ?_, ⟨T, t1, ?_, fun c hc => ?_⟩, ?_, fun m m' hm hm' => ?_⟩
  · have q := h1 m hm
    rw [pk_un (by omega), pk_un (by omega), pk_un (by omega), pk_un (by omega)] at q; exact q
  · have q := h2 c hc
    rw [pk_un (by omega), pk_un (by omega), pk_un (by omega), pk_un (by omega), pk_un (by omega), pk_un (by omega), pk_un (by omega), pk_un (by omega)] at q; exact q
  · rw [pk_un (by omega)] at t2; exact t2
  · have q := t3 c hc
    rw [pk_un (by omega)] at q; exact q
  · rw [pk_un (by omega), pk_un (by omega)] at h4; exact h4
  · have q := h6 m m' hm hm'
    rw [pk_un (by omega), pk_un (by omega)] at q; exact q
theorem NWS.of {D a b : Nat} {x y : Nat → Int32} (ha : a ≤ 6) (hb : b ≤ 6) (h1 : ∀ m, m < a → x m = y m ∧ NBx 99 (x m) ∧ x (6 + m) = y (6 + m) ∧ (x (6 + m) = -1 ∨ ∃ c, c < b ∧ x (6 + m) = nI c)) (h2 : ∀ c, c < b → (x (12 + c) = y (12 + c) ∧ NBx 99 (x (12 + c))) ∧ (x (18 + c) = y (18 + c) ∧ NBx 99 (x (18 + c))) ∧ (x (24 + c) = y (24 + c) ∧ NBx 99 (x (24 + c))) ∧ (x (30 + c) = y (30 + c) ∧ NBx 99 (x (30 + c)))) (h3 : ∃ T, T < 64 ∧ y 36 = nI T ∧ ∀ c, c < b → x (36 + c) = nI (T / 2 ^ c % 2)) (h4 : x 42 = y 37 ∧ NBx D (x 42)) (h6 : ∀ m m', m < a → m' < a → x (6 + m) = x (6 + m') → ¬ x (6 + m) = -1 → m = m') : NWS D a b x y := by
  obtain ⟨T, t1, t2, t3⟩ := h3
  refine ⟨fun m hm => ?_, fun c hc => ?_, ⟨T, t1, ?_, fun c hc => ?_⟩, ?_, ?_, fun m m' hm hm' => ?_⟩
  · rw [pk_un (by omega), pk_un (by omega), pk_un (by omega), pk_un (by omega)]; exact h1 m hm
  · rw [pk_un (by omega), pk_un (by omega), pk_un (by omega), pk_un (by omega), pk_un (by omega), pk_un (by omega), pk_un (by omega), pk_un (by omega)]; exact h2 c hc
  · rw [pk_un (by omega)]; exact t2
  · rw [pk_un (by omega)]; exact t3 c hc
  · rw [pk_un (by omega), pk_un (by omega)]; exact h4
  · rw [pk_us, pk_us]; exact ⟨rfl, 0, by omega, rfl⟩
  · rw [pk_un (by omega), pk_un (by omega)]; exact h6 m m' hm hm'
theorem NWS.r {D a b : Nat} {x y : Nat → Int32} (h : NWS D a b x y) (ha : a ≤ 6) (hb : b ≤ 6) (h5 : x 43 = y 38 ∧ NBx 999 (x 43)) : NWR D a b x y := by
  obtain ⟨h1, h2, h3, h4, h6⟩ := h.o ha hb
  exact ⟨h1, h2, h3, h4, h5, h6⟩
theorem NWS.day {D a b z : Nat} {x y x2 y2 gx : Nat → Int32} (ha : a ≤ 6) (hb : b ≤ 6) (hz : z ≤ 1) (hD : D < 2 ^ 30) (h : NWS D a b x y) (hx1 : ∀ m, m < a → x2 m = nI (min 99 (nv (x m) + nv (gx m)))) (hy1 : ∀ m, m < a → y2 m = nI (min 99 (nv (y m) + nv (gx m)))) (hx2 : ∀ k, 6 ≤ k → (k < 12 ∨ (24 ≤ k ∧ k < 30) ∨ (36 ≤ k ∧ k < 42)) → x2 k = x k) (hy2 : ∀ k, 6 ≤ k → (k < 12 ∨ (24 ≤ k ∧ k < 30) ∨ k = 36) → y2 k = y k) (hx3 : ∀ c, c < b → ((∃ m, m < a ∧ x (6 + m) = nI c) → x2 (12 + c) = nI (nv (x (12 + c)) - z) ∧ x2 (18 + c) = nI (nv (x (18 + c)) - z) ∧ x2 (30 + c) = nI (min 99 (nv (x (30 + c)) + 1))) ∧ ((¬ ∃ m, m < a ∧ x (6 + m) = nI c) → x2 (12 + c) = x (12 + c) ∧ x2 (18 + c) = x (18 + c) ∧ x2 (30 + c) = x (30 + c))) (hy3 : ∀ c, c < b → ((∃ m, m < a ∧ y (6 + m) = nI c) → y2 (12 + c) = nI (nv (y (12 + c)) - z) ∧ y2 (18 + c) = nI (nv (y (18 + c)) - z) ∧ y2 (30 + c) = nI (min 99 (nv (y (30 + c)) + 1))) ∧ ((¬ ∃ m, m < a ∧ y (6 + m) = nI c) → y2 (12 + c) = y (12 + c) ∧ y2 (18 + c) = y (18 + c) ∧ y2 (30 + c) = y (30 + c))) (hx4 : x2 42 = x 42 + 1) (hy4 : y2 37 = y 37 + 1) : NWS (D + 1) a b x2 y2 := by
  obtain ⟨h1, h2, ⟨T, t1, t2, t3⟩, ⟨h4, d, hd, ed⟩, h6⟩ := h.o ha hb
  refine NWS.of ha hb (fun m hm => ?_) (fun c hc => ?_) ⟨T, t1, ?_, fun c hc => ?_⟩ ⟨?_, d + 1, by omega, ?_⟩ (fun m m' hm hm' => ?_)
  · obtain ⟨q1, q2, q3, q4⟩ := h1 m hm
    rw [hx1 m hm, hy1 m hm, hx2 (6 + m) (by omega) (by omega), hy2 (6 + m) (by omega) (by omega), q1]
    exact ⟨rfl, ⟨_, by omega, rfl⟩, q3, q4⟩
  · obtain ⟨⟨q1, n1⟩, ⟨q2, n2⟩, ⟨q3, n3⟩, ⟨q4, n4⟩⟩ := h2 c hc
    rw [hx2 (24 + c) (by omega) (by omega), hy2 (24 + c) (by omega) (by omega)]
    obtain ⟨k1, _⟩ := n1.nat (by decide)
    obtain ⟨k2, _⟩ := n2.nat (by decide)
    by_cases p : ∃ m, m < a ∧ x (6 + m) = nI c
    · have p' : ∃ m, m < a ∧ y (6 + m) = nI c := by
        obtain ⟨m, hm, em⟩ := p
        exact ⟨m, hm, (h1 m hm).2.2.1.symm.trans em⟩
      obtain ⟨a1, a2, a3⟩ := (hx3 c hc).1 p
      obtain ⟨b1, b2, b3⟩ := (hy3 c hc).1 p'
      rw [a1, a2, a3, b1, b2, b3, q1, q2, q4]
      rw [q1] at k1
      rw [q2] at k2
      exact ⟨⟨rfl, _, by omega, rfl⟩, ⟨rfl, _, by omega, rfl⟩, ⟨q3, n3⟩, ⟨rfl, _, by omega, rfl⟩⟩
    · have p' : ¬ ∃ m, m < a ∧ y (6 + m) = nI c := fun ⟨m, hm, em⟩ => p ⟨m, hm, (h1 m hm).2.2.1.trans em⟩
      obtain ⟨a1, a2, a3⟩ := (hx3 c hc).2 p
      obtain ⟨b1, b2, b3⟩ := (hy3 c hc).2 p'
      rw [a1, a2, a3, b1, b2, b3]
      exact ⟨⟨q1, n1⟩, ⟨q2, n2⟩, ⟨q3, n3⟩, ⟨q4, n4⟩⟩
  · rw [hy2 36 (by omega) (by omega)]; exact t2
  · rw [hx2 (36 + c) (by omega) (by omega)]; exact t3 c hc
  · rw [hx4, hy4, h4]
  · rw [hx4, ed, nI_1]
  · rw [hx2 (6 + m) (by omega) (by omega), hx2 (6 + m') (by omega) (by omega)]; exact h6 m m' hm hm'
theorem NWS.shed {D a b : Nat} {x y x2 y2 : Nat → Int32} {p : Nat → Bool} (ha : a ≤ 6) (hb : b ≤ 6) (h : NWS D a b x y) (hx : ∀ k, ¬ (6 ≤ k ∧ k < 6 + a) → x2 k = x k) (hy : ∀ k, ¬ (6 ≤ k ∧ k < 6 + a) → y2 k = y k) (hx' : ∀ m, m < a → x2 (6 + m) = if p m = true then -1 else x (6 + m)) (hy' : ∀ m, m < a → y2 (6 + m) = if p m = true then -1 else y (6 + m)) : NWS D a b x2 y2 := by
  obtain ⟨h1, h2, ⟨T, t1, t2, t3⟩, h4, h6⟩ := h.o ha hb
  refine NWS.of ha hb (fun m hm => ?_) (fun c hc => ?_) ⟨T, t1, ?_, fun c hc => ?_⟩ ?_ (fun m m' hm hm' => ?_)
  · obtain ⟨q1, q2, q3, q4⟩ := h1 m hm
    rw [hx m (by omega), hy m (by omega), hx' m hm, hy' m hm]
    by_cases c : p m = true
    · rw [if_pos c, if_pos c]; exact ⟨q1, q2, rfl, Or.inl rfl⟩
    · rw [if_neg c, if_neg c]; exact ⟨q1, q2, q3, q4⟩
  · rw [hx (12 + c) (by omega), hx (18 + c) (by omega), hx (24 + c) (by omega), hx (30 + c) (by omega), hy (12 + c) (by omega), hy (18 + c) (by omega), hy (24 + c) (by omega), hy (30 + c) (by omega)]; exact h2 c hc
  · rw [hy 36 (by omega)]; exact t2
  · rw [hx (36 + c) (by omega)]; exact t3 c hc
  · rw [hx 42 (by omega), hy 37 (by omega)]; exact h4
  · rw [hx' m hm, hx' m' hm']
    intro e1 e2
    by_cases c : p m = true
    · rw [if_pos c] at e2; exact absurd rfl e2
    · rw [if_neg c] at e1 e2
      by_cases c' : p m' = true
      · rw [if_pos c'] at e1; exact absurd e1 e2
      · rw [if_neg c'] at e1; exact h6 m m' hm hm' e1 e2
theorem NWS.cms {D a b : Nat} {x y : Nat → Int32} (h : NWS D a b x y) (ha : a ≤ 6) (hb : b ≤ 6) : CMS D a b x y := by
  obtain ⟨h1, h2, _, h4, _⟩ := h.o ha hb
  exact ⟨fun m hm => ⟨(h1 m hm).1, (h1 m hm).2.1⟩, fun c hc => ⟨(h2 c hc).1, (h2 c hc).2.1, (h2 c hc).2.2.2⟩, h4.1, h4.2⟩
theorem dr1_nI {s : Nat} (hs : s ≤ 999) : dr1 (nI s) = nI ((s * 137 + 71) % 1000) := by
  unfold dr1
  have e : nI s * 137 + 71 = nI (s * 137 + 71) := by
    rw [show nI s * 137 = nI (s * 137) from nI_mulI s 137]
    exact nI_add (s * 137) 71
  rw [e]
  exact nI_modI (b := 1000) (by omega) (by decide)
theorem dr1_NB {x : Int32} (h : NBx 999 x) : NBx 999 (dr1 x) := by
  obtain ⟨s, hs, rfl⟩ := h
  exact ⟨_, by omega, dr1_nI hs⟩
theorem dayB1_0 {v : Nat → Int32} {f F : Nat → Nat → Int32} {v1 : Nat → Int32} {f1 F1 : Nat → Nat → Int32} {w1 : Int64} {g : Nat → Int64} {a b D : Nat} {p1 : Int32} (a1 : v 31 = nI a) (a2 : v1 24 = nI a) (a3 : a ≤ 6) (b1 : v 32 = nI b) (b2 : v1 25 = nI b) (b3 : b ≤ 6) (sm : STM f f1 a) (sf : STF v f v1 f1) (es : v 33 = v1 26) (hD : D + 1 ≤ 9999) (hF : ∀ q, q = 9 ∨ q = 11 ∨ q = 12 → F q = f q) (hF1 : ∀ q, q = 4 ∨ q = 5 ∨ q = 16 ∨ q = 18 → F1 q = f1 q) (hn : NWS D a b (F 15) (F1 24)) (hp :  p1 ≤ dr2 (F 15 43)) : ∃ (r : Int32) (F' F1' : Nat → Nat → Int32), gsX_X1_passDay_1 NF p1 v F = (r, v, F') ∧ gsY_X11_goDay_1 NF (nI 0) v1 F1 w1 g = (r, v1, F1', w1, g) ∧ (∀ q, q ≠ 13 → q ≠ 14 → q ≠ 15 → F' q = F q) ∧ (∀ q, q ≠ 7 → q ≠ 8 → q ≠ 24 → F1' q = F1 q) ∧ NWS (D + 1) a b (F' 15) (F1' 24) ∧ F' 15 43 = dr1 (F 15 43) ∧ F1' 24 38 = F1 24 38 := by
  obtain ⟨h1, h2, h3, h4, h6⟩ := hn.o a3 b3
  have hG : ∀ m, m < a → NBx 9 (F 9 (12 + m)) := fun m hm => by
    rw [hF 9 (Or.inl rfl)]
    exact NBx.of (n := 9) rfl (by decide) (sm m hm).2.2.2.2.2
  have hG1 : ∀ m, m < a → F1 18 m = F 9 (12 + m) := fun m hm => by
    rw [hF 9 (Or.inl rfl), hF1 18 (by omega)]
    exact (sm m hm).2.2.1.symm
  obtain ⟨A, x1, x2, x3, x4⟩ := xGrow1 (NF := NF) (p1 := p1) a1 a3 (fun m hm => (h1 m hm).2.1) hG
  obtain ⟨B, y1, y2, y3, y4⟩ := yGrow (NF := NF) (F1 := F1) (w1 := w1) (g := g) (p1 := nI 0) a2 a3 (fun m hm => by rw [← (h1 m hm).1]; exact (h1 m hm).2.1) (fun m hm => by rw [hG1 m hm]; exact hG m hm)
  have A43 : A 15 43 = F 15 43 := x2 43 (by omega)
  rw [A43] at x4
  generalize hQ : upd2 A 15 (upd (A 15) 43 (dr1 (F 15 43))) = Q at x4
  have qk : ∀ k, k ≠ 43 → Q 15 k = A 15 k := fun k hk => by rw [← hQ, u2s, pk_un hk]
  have q43 : Q 15 43 = dr1 (F 15 43) := by rw [← hQ, u2s, pk_us]
  have qw : ∀ m, m < a → Q 15 (6 + m) = F 15 (6 + m) := fun m hm => (qk _ (by omega)).trans (x2 _ (by omega))
  have qc : ∀ k, 12 ≤ k → k ≠ 43 → Q 15 k = F 15 k := fun k h1 h2 => (qk _ h2).trans (x2 _ (by omega))
  have qF : ∀ q, q ≠ 15 → Q q = F q := fun q hq => by rw [← hQ]; exact (u2n hq).trans (x1 q hq)
  have hwQ : ∀ m, m < a → Q 15 (6 + m) = -1 ∨ ∃ c, c < b ∧ Q 15 (6 + m) = nI c := fun m hm => by rw [qw m hm]; exact (h1 m hm).2.2.2
  have hiQ : ∀ m m', m < a → m' < a → Q 15 (6 + m) = Q 15 (6 + m') → ¬ Q 15 (6 + m) = -1 → m = m' := fun m m' hm hm' => by rw [qw m hm, qw m' hm']; exact h6 m m' hm hm'
  have hNQ : ∀ c, c < b → NBx 99 (Q 15 (12 + c)) ∧ NBx 99 (Q 15 (18 + c)) ∧ NBx 99 (Q 15 (30 + c)) := fun c hc => by
    rw [qc _ (by omega) (by omega), qc _ (by omega) (by omega), qc _ (by omega) (by omega)]
    exact ⟨(h2 c hc).1.2, (h2 c hc).2.1.2, (h2 c hc).2.2.2.2⟩
  have bw : ∀ m, m < a → B 24 (6 + m) = F1 24 (6 + m) := fun m hm => y2 _ (by omega)
  have hNB : ∀ c, c < b → NBx 99 (B 24 (12 + c)) ∧ NBx 99 (B 24 (18 + c)) ∧ NBx 99 (B 24 (30 + c)) := fun c hc => by
    rw [y2 _ (by omega), y2 _ (by omega), y2 _ (by omega), ← (h2 c hc).1.1, ← (h2 c hc).2.1.1, ← (h2 c hc).2.2.2.1]
    exact ⟨(h2 c hc).1.2, (h2 c hc).2.1.2, (h2 c hc).2.2.2.2⟩
  obtain ⟨E, e1, ⟨e2, e3⟩, e4⟩ := yWeat (NF := NF) (F1 := B) (w1 := w1) (g := g) (z := 0) (by decide) a2 a3 b2 b3 hNB
  generalize hY : upd2 E 24 (upd (E 24) 37 (E 24 37 + 1)) = Y at e4
  have yk : ∀ k, k ≠ 37 → Y 24 k = E 24 k := fun k hk => by rw [← hY, u2s, pk_un hk]
  have yF : ∀ q, q ≠ 24 → Y q = F1 q := fun q hq => by rw [← hY]; exact (u2n hq).trans ((e1 q hq).trans (y1 q hq))
  have y24 : ∀ k, (6 ≤ k ∧ k < 12) ∨ (24 ≤ k ∧ k < 30) ∨ k = 36 ∨ k = 38 → Y 24 k = F1 24 k := fun k hk => (yk k (by omega)).trans ((e2 k (by omega)).trans (y2 k (by omega)))
  obtain ⟨M, m1, ⟨m2, m3⟩, m4⟩ := xWeat1_0 (NF := NF) (F := Q) a1 a3 b1 b3 hwQ hiQ hNQ
  rw [if_pos hp, m4] at x4
  clear m4
  generalize hX : upd2 M 15 (upd (M 15) 42 (M 15 42 + 1)) = X at x4
  have xk : ∀ k, k ≠ 42 → X 15 k = M 15 k := fun k hk => by rw [← hX, u2s, pk_un hk]
  have xF : ∀ q, q ≠ 15 → X q = F q := fun q hq => by rw [← hX]; exact (u2n hq).trans ((m1 q hq).trans (qF q hq))
  have hday : NWS (D + 1) a b (X 15) (Y 24) := by
    refine NWS.day (x := F 15) (y := F1 24) (gx := fun m => F 9 (12 + m)) a3 b3 (z := 0) (by decide) (by omega) hn (fun m hm => ?_) (fun m hm => ?_) (fun k k1 k2 => ?_) (fun k k1 k2 => ?_) (fun c hc => ?_) (fun c hc => ?_) ?_ ?_
    · rw [xk m (by omega), m2 m (by omega), qk m (by omega)]; exact x3 m hm
    · rw [yk m (by omega), e2 m (by omega), y3 m hm, hG1 m hm]
    · rw [xk k (by omega), m2 k (by omega), qk k (by omega)]; exact x2 k (by omega)
    · exact y24 k (by omega)
    · have pc : (∃ m, m < a ∧ Q 15 (6 + m) = nI c) ↔ ∃ m, m < a ∧ F 15 (6 + m) = nI c := ⟨fun ⟨m, hm, em⟩ => ⟨m, hm, (qw m hm).symm.trans em⟩, fun ⟨m, hm, em⟩ => ⟨m, hm, (qw m hm).trans em⟩⟩
      have q := m3 c hc
      rw [qc (12 + c) (by omega) (by omega), qc (18 + c) (by omega) (by omega), qc (30 + c) (by omega) (by omega)] at q
      rw [xk (12 + c) (by omega), xk (18 + c) (by omega), xk (30 + c) (by omega)]
      exact ⟨fun h => q.1 (pc.mpr h), fun h => q.2 (fun h' => h (pc.mp h'))⟩
    · have pc : (∃ m, m < a ∧ B 24 (6 + m) = nI c) ↔ ∃ m, m < a ∧ F1 24 (6 + m) = nI c := ⟨fun ⟨m, hm, em⟩ => ⟨m, hm, (bw m hm).symm.trans em⟩, fun ⟨m, hm, em⟩ => ⟨m, hm, (bw m hm).trans em⟩⟩
      have q := e3 c hc
      rw [y2 (12 + c) (by omega), y2 (18 + c) (by omega), y2 (30 + c) (by omega)] at q
      rw [yk (12 + c) (by omega), yk (18 + c) (by omega), yk (30 + c) (by omega)]
      exact ⟨fun h => q.1 (pc.mpr h), fun h => q.2 (fun h' => h (pc.mp h'))⟩
    · rw [← hX, u2s, pk_us, m2 42 (by omega), qc 42 (by omega) (by omega)]
    · rw [← hY, u2s, pk_us, e2 37 (by omega), y2 37 (by omega)]
  obtain ⟨d1, d2, d3, d4, d6⟩ := hday.o a3 b3
  have cms := hday.cms a3 b3
  obtain ⟨Z, z1, z2, z3, z4⟩ := xShed1_21 (NF := NF) (v := v) (F := X) (v1 := v1) (F1 := Y) (w1 := w1) (g := g) a1 a3 b1 b3 sm sf hD (fun q hq => (xF q (by omega)).trans (hF q hq)) (fun q hq => (yF q (by omega)).trans (hF1 q (by omega))) cms (fun m hm => (d1 m hm).2.2.2)
  have hwY : ∀ m, m < a → Y 24 (6 + m) = X 15 (6 + m) ∧ (X 15 (6 + m) = -1 ∨ ∃ c, c < b ∧ X 15 (6 + m) = nI c) := fun m hm => ⟨(d1 m hm).2.2.1.symm, (d1 m hm).2.2.2⟩
  have wr := yWearers (NF := NF) (F1 := Y) (w1 := w1) (g := g) a2 a3 hwY b3
  obtain ⟨K, k1, k2⟩ := yFitted (NF := NF) (F1 := Y) (w1 := w1) (g := g) a1 a2 a3 b1 b3 sm sf es hD (fun q hq => (yF q (by omega)).trans (hF1 q (by omega))) cms hwY
  have an := bts_and (wrB (X 15)) (ftB (v 33) (yI NF v1 Y w1 g) (X 15)) a3
  have an : nI (bts (wrB (X 15)) a) &&& (nI (bts (ftB (v 33) (yI NF v1 Y w1 g) (X 15)) a) ^^^ (-1)) = nI (bts (shB (v 33) (yI NF v1 Y w1 g) (X 15)) a) := an
  obtain ⟨L, l1, l2, l3, l4⟩ := yShed (NF := NF) (F1 := K) (w1 := w1) (g := g) (p := shB (v 33) (yI NF v1 Y w1 g) (X 15)) a2 a3 a2
  have k24 : K 24 = Y 24 := k1 24 (by decide) (by decide)
  refine ⟨nI (bts (shB (v 33) (yI NF v1 Y w1 g) (X 15)) a), Z, L, x4.trans z4, ?_, fun q q1 q2 q3 => (z1 q q1 q2 q3).trans (xF q q3), fun q q1 q2 q3 => (l1 q q3).trans ((k1 q q1 q2).trans (yF q q3)), ?_, ?_, ?_⟩
  · rw [y4, e4]
    unfold yAft
    rw [k2]
    show gsY_X11_goDay_1_L22 NF v1 (gsY_X11_wearers_1 NF v1 Y w1 g &&& (nI (bts (ftB (v 33) (yI NF v1 Y w1 g) (X 15)) a) ^^^ (-1))) (4294967296 + NF) 0 v1 K w1 g = _
    rw [wr, an, l4]
  · refine hday.shed a3 b3 (p := shB (v 33) (yI NF v1 Y w1 g) (X 15)) z2 (fun k hk => ?_) z3 (fun m hm => ?_)
    · rw [l2 k hk, k24]
    · rw [l3 m hm, k24]
  · rw [z2 43 (by omega), xk 43 (by decide), m2 43 (by omega), q43]
  · rw [l2 38 (by omega), k24, y24 38 (by omega)]
theorem dayB1_1 {v : Nat → Int32} {f F : Nat → Nat → Int32} {v1 : Nat → Int32} {f1 F1 : Nat → Nat → Int32} {w1 : Int64} {g : Nat → Int64} {a b D : Nat} {p1 : Int32} (a1 : v 31 = nI a) (a2 : v1 24 = nI a) (a3 : a ≤ 6) (b1 : v 32 = nI b) (b2 : v1 25 = nI b) (b3 : b ≤ 6) (sm : STM f f1 a) (sf : STF v f v1 f1) (es : v 33 = v1 26) (hD : D + 1 ≤ 9999) (hF : ∀ q, q = 9 ∨ q = 11 ∨ q = 12 → F q = f q) (hF1 : ∀ q, q = 4 ∨ q = 5 ∨ q = 16 ∨ q = 18 → F1 q = f1 q) (hn : NWS D a b (F 15) (F1 24)) (hp : ¬ p1 ≤ dr2 (F 15 43)) : ∃ (r : Int32) (F' F1' : Nat → Nat → Int32), gsX_X1_passDay_1 NF p1 v F = (r, v, F') ∧ gsY_X11_goDay_1 NF (nI 1) v1 F1 w1 g = (r, v1, F1', w1, g) ∧ (∀ q, q ≠ 13 → q ≠ 14 → q ≠ 15 → F' q = F q) ∧ (∀ q, q ≠ 7 → q ≠ 8 → q ≠ 24 → F1' q = F1 q) ∧ NWS (D + 1) a b (F' 15) (F1' 24) ∧ F' 15 43 = dr1 (F 15 43) ∧ F1' 24 38 = F1 24 38 := by
  obtain ⟨h1, h2, h3, h4, h6⟩ := hn.o a3 b3
  have hG : ∀ m, m < a → NBx 9 (F 9 (12 + m)) := fun m hm => by
    rw [hF 9 (Or.inl rfl)]
    exact NBx.of (n := 9) rfl (by decide) (sm m hm).2.2.2.2.2
  have hG1 : ∀ m, m < a → F1 18 m = F 9 (12 + m) := fun m hm => by
    rw [hF 9 (Or.inl rfl), hF1 18 (by omega)]
    exact (sm m hm).2.2.1.symm
  obtain ⟨A, x1, x2, x3, x4⟩ := xGrow1 (NF := NF) (p1 := p1) a1 a3 (fun m hm => (h1 m hm).2.1) hG
  obtain ⟨B, y1, y2, y3, y4⟩ := yGrow (NF := NF) (F1 := F1) (w1 := w1) (g := g) (p1 := nI 1) a2 a3 (fun m hm => by rw [← (h1 m hm).1]; exact (h1 m hm).2.1) (fun m hm => by rw [hG1 m hm]; exact hG m hm)
  have A43 : A 15 43 = F 15 43 := x2 43 (by omega)
  rw [A43] at x4
  generalize hQ : upd2 A 15 (upd (A 15) 43 (dr1 (F 15 43))) = Q at x4
  have qk : ∀ k, k ≠ 43 → Q 15 k = A 15 k := fun k hk => by rw [← hQ, u2s, pk_un hk]
  have q43 : Q 15 43 = dr1 (F 15 43) := by rw [← hQ, u2s, pk_us]
  have qw : ∀ m, m < a → Q 15 (6 + m) = F 15 (6 + m) := fun m hm => (qk _ (by omega)).trans (x2 _ (by omega))
  have qc : ∀ k, 12 ≤ k → k ≠ 43 → Q 15 k = F 15 k := fun k h1 h2 => (qk _ h2).trans (x2 _ (by omega))
  have qF : ∀ q, q ≠ 15 → Q q = F q := fun q hq => by rw [← hQ]; exact (u2n hq).trans (x1 q hq)
  have hwQ : ∀ m, m < a → Q 15 (6 + m) = -1 ∨ ∃ c, c < b ∧ Q 15 (6 + m) = nI c := fun m hm => by rw [qw m hm]; exact (h1 m hm).2.2.2
  have hiQ : ∀ m m', m < a → m' < a → Q 15 (6 + m) = Q 15 (6 + m') → ¬ Q 15 (6 + m) = -1 → m = m' := fun m m' hm hm' => by rw [qw m hm, qw m' hm']; exact h6 m m' hm hm'
  have hNQ : ∀ c, c < b → NBx 99 (Q 15 (12 + c)) ∧ NBx 99 (Q 15 (18 + c)) ∧ NBx 99 (Q 15 (30 + c)) := fun c hc => by
    rw [qc _ (by omega) (by omega), qc _ (by omega) (by omega), qc _ (by omega) (by omega)]
    exact ⟨(h2 c hc).1.2, (h2 c hc).2.1.2, (h2 c hc).2.2.2.2⟩
  have bw : ∀ m, m < a → B 24 (6 + m) = F1 24 (6 + m) := fun m hm => y2 _ (by omega)
  have hNB : ∀ c, c < b → NBx 99 (B 24 (12 + c)) ∧ NBx 99 (B 24 (18 + c)) ∧ NBx 99 (B 24 (30 + c)) := fun c hc => by
    rw [y2 _ (by omega), y2 _ (by omega), y2 _ (by omega), ← (h2 c hc).1.1, ← (h2 c hc).2.1.1, ← (h2 c hc).2.2.2.1]
    exact ⟨(h2 c hc).1.2, (h2 c hc).2.1.2, (h2 c hc).2.2.2.2⟩
  obtain ⟨E, e1, ⟨e2, e3⟩, e4⟩ := yWeat (NF := NF) (F1 := B) (w1 := w1) (g := g) (z := 1) (by decide) a2 a3 b2 b3 hNB
  generalize hY : upd2 E 24 (upd (E 24) 37 (E 24 37 + 1)) = Y at e4
  have yk : ∀ k, k ≠ 37 → Y 24 k = E 24 k := fun k hk => by rw [← hY, u2s, pk_un hk]
  have yF : ∀ q, q ≠ 24 → Y q = F1 q := fun q hq => by rw [← hY]; exact (u2n hq).trans ((e1 q hq).trans (y1 q hq))
  have y24 : ∀ k, (6 ≤ k ∧ k < 12) ∨ (24 ≤ k ∧ k < 30) ∨ k = 36 ∨ k = 38 → Y 24 k = F1 24 k := fun k hk => (yk k (by omega)).trans ((e2 k (by omega)).trans (y2 k (by omega)))
  obtain ⟨M, m1, ⟨m2, m3⟩, m4⟩ := xWeat1_1 (NF := NF) (F := Q) a1 a3 b1 b3 hwQ hiQ hNQ
  rw [if_neg hp, m4] at x4
  clear m4
  generalize hX : upd2 M 15 (upd (M 15) 42 (M 15 42 + 1)) = X at x4
  have xk : ∀ k, k ≠ 42 → X 15 k = M 15 k := fun k hk => by rw [← hX, u2s, pk_un hk]
  have xF : ∀ q, q ≠ 15 → X q = F q := fun q hq => by rw [← hX]; exact (u2n hq).trans ((m1 q hq).trans (qF q hq))
  have hday : NWS (D + 1) a b (X 15) (Y 24) := by
    refine NWS.day (x := F 15) (y := F1 24) (gx := fun m => F 9 (12 + m)) a3 b3 (z := 1) (by decide) (by omega) hn (fun m hm => ?_) (fun m hm => ?_) (fun k k1 k2 => ?_) (fun k k1 k2 => ?_) (fun c hc => ?_) (fun c hc => ?_) ?_ ?_
    · rw [xk m (by omega), m2 m (by omega), qk m (by omega)]; exact x3 m hm
    · rw [yk m (by omega), e2 m (by omega), y3 m hm, hG1 m hm]
    · rw [xk k (by omega), m2 k (by omega), qk k (by omega)]; exact x2 k (by omega)
    · exact y24 k (by omega)
    · have pc : (∃ m, m < a ∧ Q 15 (6 + m) = nI c) ↔ ∃ m, m < a ∧ F 15 (6 + m) = nI c := ⟨fun ⟨m, hm, em⟩ => ⟨m, hm, (qw m hm).symm.trans em⟩, fun ⟨m, hm, em⟩ => ⟨m, hm, (qw m hm).trans em⟩⟩
      have q := m3 c hc
      rw [qc (12 + c) (by omega) (by omega), qc (18 + c) (by omega) (by omega), qc (30 + c) (by omega) (by omega)] at q
      rw [xk (12 + c) (by omega), xk (18 + c) (by omega), xk (30 + c) (by omega)]
      exact ⟨fun h => q.1 (pc.mpr h), fun h => q.2 (fun h' => h (pc.mp h'))⟩
    · have pc : (∃ m, m < a ∧ B 24 (6 + m) = nI c) ↔ ∃ m, m < a ∧ F1 24 (6 + m) = nI c := ⟨fun ⟨m, hm, em⟩ => ⟨m, hm, (bw m hm).symm.trans em⟩, fun ⟨m, hm, em⟩ => ⟨m, hm, (bw m hm).trans em⟩⟩
      have q := e3 c hc
      rw [y2 (12 + c) (by omega), y2 (18 + c) (by omega), y2 (30 + c) (by omega)] at q
      rw [yk (12 + c) (by omega), yk (18 + c) (by omega), yk (30 + c) (by omega)]
      exact ⟨fun h => q.1 (pc.mpr h), fun h => q.2 (fun h' => h (pc.mp h'))⟩
    · rw [← hX, u2s, pk_us, m2 42 (by omega), qc 42 (by omega) (by omega)]
    · rw [← hY, u2s, pk_us, e2 37 (by omega), y2 37 (by omega)]
  obtain ⟨d1, d2, d3, d4, d6⟩ := hday.o a3 b3
  have cms := hday.cms a3 b3
  obtain ⟨Z, z1, z2, z3, z4⟩ := xShed1_62 (NF := NF) (v := v) (F := X) (v1 := v1) (F1 := Y) (w1 := w1) (g := g) a1 a3 b1 b3 sm sf hD (fun q hq => (xF q (by omega)).trans (hF q hq)) (fun q hq => (yF q (by omega)).trans (hF1 q (by omega))) cms (fun m hm => (d1 m hm).2.2.2)
  have hwY : ∀ m, m < a → Y 24 (6 + m) = X 15 (6 + m) ∧ (X 15 (6 + m) = -1 ∨ ∃ c, c < b ∧ X 15 (6 + m) = nI c) := fun m hm => ⟨(d1 m hm).2.2.1.symm, (d1 m hm).2.2.2⟩
  have wr := yWearers (NF := NF) (F1 := Y) (w1 := w1) (g := g) a2 a3 hwY b3
  obtain ⟨K, k1, k2⟩ := yFitted (NF := NF) (F1 := Y) (w1 := w1) (g := g) a1 a2 a3 b1 b3 sm sf es hD (fun q hq => (yF q (by omega)).trans (hF1 q (by omega))) cms hwY
  have an := bts_and (wrB (X 15)) (ftB (v 33) (yI NF v1 Y w1 g) (X 15)) a3
  have an : nI (bts (wrB (X 15)) a) &&& (nI (bts (ftB (v 33) (yI NF v1 Y w1 g) (X 15)) a) ^^^ (-1)) = nI (bts (shB (v 33) (yI NF v1 Y w1 g) (X 15)) a) := an
  obtain ⟨L, l1, l2, l3, l4⟩ := yShed (NF := NF) (F1 := K) (w1 := w1) (g := g) (p := shB (v 33) (yI NF v1 Y w1 g) (X 15)) a2 a3 a2
  have k24 : K 24 = Y 24 := k1 24 (by decide) (by decide)
  refine ⟨nI (bts (shB (v 33) (yI NF v1 Y w1 g) (X 15)) a), Z, L, x4.trans z4, ?_, fun q q1 q2 q3 => (z1 q q1 q2 q3).trans (xF q q3), fun q q1 q2 q3 => (l1 q q3).trans ((k1 q q1 q2).trans (yF q q3)), ?_, ?_, ?_⟩
  · rw [y4, e4]
    unfold yAft
    rw [k2]
    show gsY_X11_goDay_1_L22 NF v1 (gsY_X11_wearers_1 NF v1 Y w1 g &&& (nI (bts (ftB (v 33) (yI NF v1 Y w1 g) (X 15)) a) ^^^ (-1))) (4294967296 + NF) 0 v1 K w1 g = _
    rw [wr, an, l4]
  · refine hday.shed a3 b3 (p := shB (v 33) (yI NF v1 Y w1 g) (X 15)) z2 (fun k hk => ?_) z3 (fun m hm => ?_)
    · rw [l2 k hk, k24]
    · rw [l3 m hm, k24]
  · rw [z2 43 (by omega), xk 43 (by decide), m2 43 (by omega), q43]
  · rw [l2 38 (by omega), k24, y24 38 (by omega)]
theorem FREL.day {v : Nat → Int32} {f : Nat → Nat → Int32} {v1 : Nat → Int32} {f1 : Nat → Nat → Int32} {w1 : Int64} {g : Nat → Int64} {r r' : Int32} {u : (Nat → Int32) × (Nat → Nat → Int32)} {u' : (Nat → Int32) × (Nat → Nat → Int32) × Int64 × (Nat → Int64)} (h : FREL v f v1 f1) (e : gsX_X10_day_1 NF v f = (r, u)) (e' : gsY_X11_day_1 NF v1 f1 w1 g = (r', u')) : r = r' ∧ FREL u.1 u.2 u'.1 u'.2.1 := by
  have hh := h
  obtain ⟨hr, a, b, a1, a2, a3, b1, b2, b3, sm, sc, nw, ac, bx⟩ := h
  have nwd := nw.2.2.2.1
  obtain ⟨nd, d, hd, ed⟩ := nwd
  have td : gsX_X1_today_1 NF v f = nI d := by simp only [gsX_X1_today_1, cN42]; exact ed
  have y37 : f1 23 37 = nI d := nd.symm.trans ed
  by_cases c9 : d = 999
  · have eX : gsX_X10_day_1 NF v f = (-1, v, f) := by
      simp only [gsX_X10_day_1, td, if_neg (show ¬ nI d < (999 : Int32) from nI_nlt (b := 999) (by omega) (by omega))]
    have eY : gsY_X11_day_1 NF v1 f1 w1 g = (-1, v1, f1, w1, g) := by
      simp only [gsY_X11_day_1, cN37, y37, if_pos (show nI d = (999 : Int32) by rw [c9]; rfl)]
    rw [eX] at e
    rw [eY] at e'
    cases e; cases e'
    exact ⟨rfl, hh⟩
  · have x9 : nI d < (999 : Int32) := nI_lt (b := 999) (by omega) (by decide)
    have y9 : ¬ nI d = (999 : Int32) := nlit 999 999 rfl (by omega) (by decide) c9
    have ac' := ac
    rcases ac' with ⟨p, dd, uu, hp, hdu, h21, h22, h23, h35, rest⟩
    obtain ⟨d', Y, Z, y1, y2, y3, y4, y5, y6, y7⟩ := yAct (NF := NF) (F := f1) (W := w1) (G := g) h35 (by omega)
    obtain ⟨sd1, sd2⟩ := nw.2.2.2.2.1
    have z38 : Z 24 38 = f 15 43 := (y6 38 (by decide)).trans sd1.symm
    have eD : gsY_X11_drawRain_1 NF Y Z w1 g = ((if Y 29 ≤ dr2 (f 15 43) then 0 else 1), Y, upd2 Z 24 (upd (Z 24) 38 (dr1 (f 15 43))), w1, g) := by
      simp only [gsY_X11_drawRain_1, cN38, u2s, pk_us, z38]
      show (if Y 29 ≤ dr2 (f 15 43) then ((0 : Int32), Y, _, w1, g) else (1, Y, _, w1, g)) = _
      by_cases q : Y 29 ≤ dr2 (f 15 43)
      · rw [if_pos q, if_pos q]; rfl
      · rw [if_neg q, if_neg q]; rfl
    generalize hZ : upd2 Z 24 (upd (Z 24) 38 (dr1 (f 15 43))) = A at eD
    have aF : ∀ q, q ≠ 24 → q ≠ 25 → A q = f1 q := fun q q1 q2 => by rw [← hZ]; exact (u2n q1).trans (y5 q q1 q2)
    have a24 : ∀ k, k < 38 → A 24 k = f1 23 k := fun k hk => by rw [← hZ, u2s, pk_un (by omega)]; exact y6 k (by omega)
    have a38 : A 24 38 = dr1 (f 15 43) := by rw [← hZ, u2s, pk_us]
    have nA : NWS 999 a b (f 15) (A 24) := by
      obtain ⟨n1, n2, n3, n4, n6⟩ := (nw.s a3 b3).o a3 b3
      obtain ⟨T, t1, t2, t3⟩ := n3
      exact NWS.of a3 b3 (fun m hm => by rw [a24 m (by omega), a24 (6 + m) (by omega)]; exact n1 m hm) (fun c hc => by rw [a24 (12 + c) (by omega), a24 (18 + c) (by omega), a24 (24 + c) (by omega), a24 (30 + c) (by omega)]; exact n2 c hc) ⟨T, t1, by rw [a24 36 (by decide)]; exact t2, t3⟩ (by rw [a24 37 (by decide)]; exact n4) n6
    have nA' : NWS 998 a b (f 15) (A 24) := by
      obtain ⟨n1, n2, n3, ⟨n4, _⟩, n6⟩ := nA.o a3 b3
      exact NWS.of a3 b3 n1 n2 n3 ⟨n4, d, by omega, ed⟩ n6
    have e29 : Y 29 = v 36 := (y4 29 (by decide) (by decide)).trans hr.2.1.2.1.2.2.2.1.symm
    have a2' : Y 24 = nI a := (y4 24 (by decide) (by decide)).trans a2
    have b2' : Y 25 = nI b := (y4 25 (by decide) (by decide)).trans b2
    have sf' : STF v f Y f1 := by
      have q := hr.2.1.2.2
      unfold STF at q ⊢
      rw [y4 16 (by decide) (by decide), y4 9 (by decide) (by decide)]
      exact q
    have es' : v 33 = Y 26 := hr.2.1.2.1.1.trans (y4 26 (by decide) (by decide)).symm
    have both : ∃ (z : Nat) (R : Int32) (F' F1' : Nat → Nat → Int32), (if Y 29 ≤ dr2 (f 15 43) then (0 : Int32) else 1) = nI z ∧ z ≤ 1 ∧ gsX_X1_passDay_1 NF (v 36) v f = (R, v, F') ∧ gsY_X11_goDay_1 NF (nI z) Y A w1 g = (R, Y, F1', w1, g) ∧ (∀ q, q ≠ 13 → q ≠ 14 → q ≠ 15 → F' q = f q) ∧ (∀ q, q ≠ 7 → q ≠ 8 → q ≠ 24 → F1' q = A q) ∧ NWS (998 + 1) a b (F' 15) (F1' 24) ∧ F' 15 43 = dr1 (f 15 43) ∧ F1' 24 38 = A 24 38 := by
      rw [e29]
      by_cases q : v 36 ≤ dr2 (f 15 43)
      · obtain ⟨R, F', F1', r1, r2, r3, r4, r5, r6, r7⟩ := dayB1_0 (NF := NF) (w1 := w1) (g := g) a1 a2' a3 b1 b2' b3 sm sf' es' (by decide) (fun q _ => rfl) (fun q hq => aF q (by omega) (by omega)) nA' q
        exact ⟨0, R, F', F1', if_pos q, by decide, r1, r2, r3, r4, r5, r6, r7⟩
      · obtain ⟨R, F', F1', r1, r2, r3, r4, r5, r6, r7⟩ := dayB1_1 (NF := NF) (w1 := w1) (g := g) a1 a2' a3 b1 b2' b3 sm sf' es' (by decide) (fun q _ => rfl) (fun q hq => aF q (by omega) (by omega)) nA' q
        exact ⟨1, R, F', F1', if_neg q, by decide, r1, r2, r3, r4, r5, r6, r7⟩
    obtain ⟨z, R, F', F1', ez, hz, r1, r2, r3, r4, r5, r6, r7⟩ := both
    rw [ez] at eD
    obtain ⟨K, k1, k2, k3⟩ := yKeepAir (NF := NF) (V := Y) (F0 := F1') (W := w1) (G := g)
    rcases hk : gsX_X5_keepAct_1 NF v F' with ⟨V', F''⟩
    have eX : gsX_X10_day_1 NF v f = (R, V', F'') := by
      simp only [gsX_X10_day_1, td, if_pos x9, r1, hk]
    have eY : gsY_X11_day_1 NF v1 f1 w1 g = (R, Y, K, w1, g) := by
      simp only [gsY_X11_day_1, cN37, y37, if_neg y9, y1, eD]
      rcases (show z = 0 ∨ z = 1 by omega) with q | q
      · subst q
        have r2 : gsY_X11_goDay_1 NF 0 Y A w1 g = (R, Y, F1', w1, g) := r2
        rw [if_neg (show ¬ nI 0 = (1 : Int32) by decide)]
        simp only [r2, k3]
      · subst q
        have r2 : gsY_X11_goDay_1 NF 1 Y A w1 g = (R, Y, F1', w1, g) := r2
        rw [if_pos (show nI 1 = (1 : Int32) from rfl)]
        simp only [r2, k3]
    rw [eX] at e
    rw [eY] at e'
    cases e; cases e'
    refine ⟨rfl, hh.act (F2 := K) r3 (fun q _ => rfl) hk y1 (fun q q1 q2 q3 q4 => ?_) (fun a' b' a1' _ b1' _ a3' b3' _ _ nw' => ?_)⟩
    · rw [k1 q q3, r4 q q1 q2 q4, ← hZ]; exact u2n q4
    · have ea : a' = a := (nI_eq (by omega) (by omega)).mp (a1'.symm.trans a1)
      have eb : b' = b := (nI_eq (by omega) (by omega)).mp (b1'.symm.trans b1)
      subst ea eb
      have nr : NWR 999 a' b' (F' 15) (F1' 24) := r5.r a3 b3 ⟨by rw [r6, r7, a38], by rw [r6]; exact dr1_NB sd2⟩
      exact nr.cg a3 b3 (fun _ _ => rfl) (fun k hk => k2 k hk)
end
end
section
section
variable {NF : Nat} {v : Nat → Int32} {f : Nat → Nat → Int32} {v1 : Nat → Int32} {f1 : Nat → Nat → Int32} {w1 : Int64} {g : Nat → Int64} {r r' : Int32} {u : (Nat → Int32) × (Nat → Nat → Int32)} {u' : (Nat → Int32) × (Nat → Nat → Int32) × Int64 × (Nat → Int64)}
abbrev XTI : List Nat := [18, 31, 32, 33, 34, 35, 36, 0, 41, 20, 21, 22, 23]
abbrev XTF : List Nat := [9, 10, 11, 12, 23, 24, 25, 26, 15, 16, 17]
abbrev YTI : List Nat := [9, 16, 24, 25, 26, 27, 28, 29, 38, 39, 35, 36]
abbrev YTF : List Nat := [4, 5, 16, 17, 18, 19, 20, 21, 22, 30, 31, 32, 33, 23, 25, 36, 37]
theorem FREL.feed {p1 p2 p3 p4 p5 : Int32} (h : FREL v f v1 f1) (e : gsX_X10_feed_1 NF p1 p2 p3 p4 p5 v f = (r, u)) (e' : gsY_X11_feed_1 NF p1 p2 p3 p4 p5 v1 f1 w1 g = (r', u')) (a : ∀ k, XTI.contains k = true → u.1 k = v k) (b : ∀ k, XTF.contains k = true → u.2 k = f k) (c : ∀ k, YTI.contains k = true → u'.1 k = v1 k) (d : ∀ k, YTF.contains k = true → u'.2.1 k = f1 k) : r = r' ∧ FREL u.1 u.2 u'.1 u'.2.1 := by
  have q := h.1.feed e e' (fun k hk => a k (kx_in (by decide) hk)) (fun k hk => b k (kx_in (by decide) hk)) (fun k hk => c k (kx_in (by decide) hk)) (fun k hk => d k (kx_in (by decide) hk))
  exact ⟨q.1, h.cp q.2 (fun k hk => a k (kx_in (by decide) hk)) (fun k hk => b k (kx_in (by decide) hk)) (fun k hk => c k (kx_in (by decide) hk)) (fun k hk => d k (kx_in (by decide) hk))⟩
theorem FREL.ends {p : Int32} (h : FREL v f v1 f1) (e : gsX_X10_end_1 NF p v f = (r, u)) (e' : gsY_X11_end_1 NF p v1 f1 w1 g = (r', u')) (a : ∀ k, XTI.contains k = true → u.1 k = v k) (b : ∀ k, XTF.contains k = true → u.2 k = f k) (c : ∀ k, YTI.contains k = true → u'.1 k = v1 k) (d : ∀ k, YTF.contains k = true → u'.2.1 k = f1 k) : r = r' ∧ FREL u.1 u.2 u'.1 u'.2.1 := by
  have q := h.1.ends e e' (fun k hk => a k (kx_in (by decide) hk)) (fun k hk => b k (kx_in (by decide) hk)) (fun k hk => c k (kx_in (by decide) hk)) (fun k hk => d k (kx_in (by decide) hk))
  exact ⟨q.1, h.cp q.2 (fun k hk => a k (kx_in (by decide) hk)) (fun k hk => b k (kx_in (by decide) hk)) (fun k hk => c k (kx_in (by decide) hk)) (fun k hk => d k (kx_in (by decide) hk))⟩
theorem FREL.of3 (h : FREL v f v1 f1) (q : r = r' ∧ R3 u.1 u.2 u'.1 u'.2.1) (a : ∀ k, ([31, 32, 20, 21, 22, 23] : List Nat).contains k = true → u.1 k = v k) (b : ∀ k, ([9, 10, 15, 16, 17] : List Nat).contains k = true → u.2 k = f k) (c : ∀ k, ([24, 25, 35, 36] : List Nat).contains k = true → u'.1 k = v1 k) (d : ∀ k, ([16, 17, 18, 19, 20, 21, 22, 23, 25, 36, 37] : List Nat).contains k = true → u'.2.1 k = f1 k) : r = r' ∧ FREL u.1 u.2 u'.1 u'.2.1 := ⟨q.1, h.cp q.2 a b c d⟩
theorem zdiv (c : Nat) : nI (0 / 2 ^ c % 2) = 0 := by rw [Nat.zero_div]; rfl
theorem FREL.reg (h : FREL v f v1 f1) (e : gsX_X10_regiment_1 NF v f = (r, u)) (z0 : (u.1 1).toInt = 0) (t0 : u.1 0 = v 0) (a : (gsX_X6_read_1 NF v f).1 = 1 ∨ ((∀ k, XTI.contains k = true → u.1 k = v k) ∧ ∀ k, XTF.contains k = true → u.2 k = f k)) (e' : gsY_X11_regiment_1 NF v1 f1 w1 g = (r', u')) (z1 : (u'.1 0).toInt = 0) (t1 : u'.1 39 = v1 39) (b : (gsY_X11_readAll_1 NF v1 f1 w1 g).1 1 ≤ 0 ∨ ((∀ k, YTI.contains k = true → u'.1 k = v1 k) ∧ ∀ k, YTF.contains k = true → u'.2.1 k = f1 k)) : r = r' ∧ FREL u.1 u.2 u'.1 u'.2.1 := by
  have R := h.1.reg e z0 t0 (a.imp id (fun q => ⟨fun k hk => q.1 k (kx_in (by decide) hk), fun k hk => q.2 k (kx_in (by decide) hk)⟩)) e' z1 t1 (b.imp id (fun q => ⟨fun k hk => q.1 k (kx_in (by decide) hk), fun k hk => q.2 k (kx_in (by decide) hk)⟩))
  refine ⟨R.1, ?_⟩
  have hh := h
  obtain ⟨⟨⟨⟨c, n, t⟩, _, _⟩, _, _⟩, _⟩ := h
  rcases readPair (NF := NF) (w1 := w1) (g := g) t with ⟨v', f', v1', f1', w1', g', i', A, B, t', e1, e2, lr⟩ | ⟨v', f', v1', f1', w1', g', e1, e2, lf⟩
  · obtain ⟨l0, ⟨p7, p8, p2⟩, ⟨a1, a2, a3⟩, ⟨b1, b2, b3⟩, lm, lc, _, _, ⟨q0, q6, q15, _⟩, ⟨s1, s2, s3, s4, s5, s6⟩, o1, o2⟩ := lr
    obtain ⟨U, F, x1, ⟨x0, xx1, x7, x8, x18, x19, x20, x21, x22, x23, x31, x32, x33, x34, x35, x36, x41⟩, x9, x10, x11, xm, xc, x42, x43, x17, _⟩ := xReg (NF := NF) e1 a1 b1 a3 b3
    have hform : ∃ n, n ≤ 300 ∧ ((v1' 15 = 0 ∧ n = 0) ∨ (v1' 15 = 1 ∧ v1' 8 = nI n)) := by
      by_cases hp : t' % 2 = 0
      · exact ⟨0, by decide, Or.inl ⟨by rw [q15, hp]; rfl, rfl⟩⟩
      · have hp : t' % 2 = 1 := by omega
        obtain ⟨out, own, k1, k2, k3, _⟩ := o2 hp
        exact ⟨out.length, by omega, Or.inr ⟨by rw [q15, hp]; rfl, k2⟩⟩
    obtain ⟨N, hN, h15⟩ := hform
    obtain ⟨U', F', y1, ⟨y0, yy1, y2, y9, y12, y16, y24, y25, y26, y27, y28, y29, y35, y36, y38, y39⟩, yF, yM, yC, ym, yc, yt, yd, ys, yb, _⟩ := yReg (NF := NF) e2 l0.2.2.2.2 a2 b2 a3 b3 hN h15
    rw [x1] at e
    rw [y1] at e'
    cases e
    cases e'
    refine ⟨R.2, A, B, x31.trans a1, y24.trans a2, a3, x32.trans b1, y25.trans b2, b3, fun j hj => ?_, fun j hj => ?_, ⟨fun m hm => ?_, fun k hk => ?_, ⟨0, by decide, yt, fun k hk => ?_⟩, ⟨?_, 0, by decide, x42⟩, ⟨?_, ?_⟩, fun m m' hm hm' q1 q2 => ?_⟩, ⟨0, 0, 0, by decide, by decide, x21, x22, x23, y35, y36, fun k hk => absurd hk (Nat.not_lt_zero _), fun k _ hk => absurd hk (Nat.not_lt_zero _), fun k hk => ?_⟩, ⟨0, by decide, x20, fun i hi => ⟨?_, fun q => ?_⟩⟩⟩
    · show F 9 j = F' 16 j ∧ F 9 (6 + j) = F' 17 j ∧ F 9 (12 + j) = F' 18 j ∧ MB (F 9 j) (F 9 (6 + j)) (F 9 (12 + j))
      rw [x9 j (by omega), x9 (6 + j) (by omega), x9 (12 + j) (by omega), (yM j hj).1, (yM j hj).2.1, (yM j hj).2.2]
      exact lm j hj
    · show F 10 j = F' 19 j ∧ F 10 (6 + j) = F' 20 j ∧ F 10 (12 + j) = F' 21 j ∧ F 10 (18 + j) = F' 22 j ∧ CB (F 10 j) (F 10 (6 + j)) (F 10 (12 + j)) (F 10 (18 + j))
      rw [x10 j (by omega), x10 (6 + j) (by omega), x10 (12 + j) (by omega), x10 (18 + j) (by omega), (yC j hj).1, (yC j hj).2.1, (yC j hj).2.2.1, (yC j hj).2.2.2]
      exact lc j hj
    · show F 15 m = F' 23 m ∧ NBx 99 (F 15 m) ∧ F 15 (6 + m) = F' 23 (6 + m) ∧ (F 15 (6 + m) = -1 ∨ ∃ c, c < B ∧ F 15 (6 + m) = nI c)
      rw [(xm m hm).1, (xm m hm).2, (ym m hm).1, (ym m hm).2]
      obtain ⟨_, z2, _, zb⟩ := lm m hm
      exact ⟨z2, NBx.of (n := 99) rfl (by decide) zb.2.1, rfl, Or.inl rfl⟩
    · show (F 15 (12 + k) = F' 23 (12 + k) ∧ NBx 99 (F 15 (12 + k))) ∧ (F 15 (18 + k) = F' 23 (18 + k) ∧ NBx 99 (F 15 (18 + k))) ∧ (F 15 (24 + k) = F' 23 (24 + k) ∧ NBx 99 (F 15 (24 + k))) ∧ (F 15 (30 + k) = F' 23 (30 + k) ∧ NBx 99 (F 15 (30 + k)))
      obtain ⟨w1, w2, w3, w4, _⟩ := xc k hk
      obtain ⟨u1, u2, u3, u4⟩ := yc k hk
      rw [w1, w2, w3, w4, u1, u2, u3, u4]
      obtain ⟨z1, z2, z3, z4, zb⟩ := lc k hk
      obtain ⟨j3, hj3, ej3⟩ := NBx.of (n := 20) rfl (by decide) zb.2.2.1
      exact ⟨⟨z1, NBx.of (n := 99) rfl (by decide) zb.1⟩, ⟨z2, NBx.of (n := 99) rfl (by decide) zb.2.1⟩, ⟨z3, j3, by omega, ej3⟩, ⟨z4, NBx.of (n := 99) rfl (by decide) zb.2.2.2⟩⟩
    · show F 15 (36 + k) = _
      rw [(xc k hk).2.2.2.2, zdiv]
    · show F 15 42 = F' 23 37
      rw [x42, yd]
    · show F 15 43 = F' 23 38
      rw [x43, ys]; exact s5
    · show NBx 999 (F 15 43)
      rw [x43]; exact NBx.of (n := 999) rfl (by decide) s6.2.2.2.2
    · exact absurd (xm m hm).2 q2
    · show F 17 ((0 + 0) % 41 * 44 + k) = F 15 k
      rw [show (0 + 0) % 41 * 44 + k = k by omega]; exact x17 k hk
    · show F' 36 i = _
      rw [yb i hi, zdiv]; exact nar0
    · rw [Nat.zero_div] at q; exact absurd q (by decide)
  · obtain ⟨s, j, s0, s1, q1, q2, q3, q4⟩ := lf
    have nle : ¬ v1' 1 ≤ 0 := by rw [q2]; exact nI_nle s0 (by omega)
    rw [e1] at a
    rw [e2] at b
    obtain ⟨a1, a2⟩ := a.resolve_left (show ¬ (0 : Int32) = 1 by decide)
    obtain ⟨b1, b2⟩ := b.resolve_left nle
    exact hh.cp R.2 (fun k hk => a1 k (kx_in (by decide) hk)) (fun k hk => a2 k (kx_in (by decide) hk)) (fun k hk => b1 k (kx_in (by decide) hk)) (fun k hk => b2 k (kx_in (by decide) hk))
end
end
section
section
variable {NF : Nat} {v : Nat → Int32} {f : Nat → Nat → Int32} {v1 : Nat → Int32} {f1 : Nat → Nat → Int32} {w1 : Int64} {g : Nat → Int64} {r r' : Int32} {u : (Nat → Int32) × (Nat → Nat → Int32)} {u' : (Nat → Int32) × (Nat → Nat → Int32) × Int64 × (Nat → Int64)}
theorem FREL.misfit {p1 p2 : Int32} (h : FREL v f v1 f1) (e : gsX_X10_misfit_1 NF p1 p2 v f = (r, u)) (e' : gsY_X11_misfit_1 NF p1 p2 v1 f1 w1 g = (r', u')) : r = r' := by
  obtain ⟨hr, a, b, a1, a2, a3, b1, b2, b3, sm, sc, nw, ac, bx⟩ := h
  obtain ⟨A, q1, q2, q3⟩ := yFill (NF := NF) (V := v1) (F0 := f1) (W := w1) (G := g)
  have bad : gsX_X10_misfit_1 NF p1 p2 v f = (-1, v, f) → gsY_X11_misfit_1 NF p1 p2 v1 f1 w1 g = (-1, v1, A, w1, g) → r = r' := fun x y => by
    rw [x] at e
    rw [y] at e'
    cases e; cases e'
    rfl
  rcases in_cases p1 a with ⟨m, hm, rfl⟩ | n1
  · have xm := xHasM1 (NF := NF) (F := f) a1 a3 hm
    have ym := yIsM1 (NF := NF) (F1 := A) (W := w1) (G := g) a2 a3 hm
    rcases in_cases p2 b with ⟨c, hc, rfl⟩ | n2
    · have xc := xHasC1 (NF := NF) (F := f) b1 b3 hc
      have yc := yIsC1 (NF := NF) (F1 := A) (W := w1) (G := g) b2 b3 hc
      obtain ⟨R, B, C, i1, i2, _⟩ := illBoth1 (NF := NF) (F := f) (F1 := A) (w1 := w1) (g := g) a1 a3 b1 b3 sm hr.2.1.2.2 (show 999 ≤ 9999 by decide) (fun _ _ => rfl) (fun q hq => q1 q (by omega)) (nw.cms.cg a3 b3 (fun _ _ => rfl) (fun k hk => q2 k (by omega))) hm hc
      simp only [gsX_X10_misfit_1, xm, xc, ite11, if_true, i1] at e
      simp only [gsY_X11_misfit_1, q3, ym, yc, ite11, if_true, i2] at e'
      cases e; cases e'
      rfl
    · refine bad ?_ ?_
      · simp only [gsX_X10_misfit_1, xm, xHasC0 (NF := NF) (F := f) b1 n2, ite11, if_true, ite01]
      · simp only [gsY_X11_misfit_1, q3, ym, yIsC0 (NF := NF) (F1 := A) (W := w1) (G := g) b2 b3 n2, ite11, if_true, ite01]
  · refine bad ?_ ?_
    · simp only [gsX_X10_misfit_1, xHasM0 (NF := NF) (F := f) a1 n1, ite01]
    · simp only [gsY_X11_misfit_1, q3, yIsM0 (NF := NF) (F1 := A) (W := w1) (G := g) a2 a3 n1, ite01]
end
end
section
section
def QC (NF : Nat) (v : Nat → Int32) (f : Nat → Nat → Int32) (v1 : Nat → Int32) (f1 : Nat → Nat → Int32) (w1 : Int64) (g : Nat → Int64) (a b : Nat) (A : Nat → Nat → Int32) (R : Nat → Nat → Int32) : Prop := (v 31 = nI a) ∧ (v1 24 = nI a) ∧ (a ≤ 6) ∧ (v 32 = nI b) ∧ (v1 25 = nI b) ∧ (b ≤ 6) ∧ (STM f f1 a) ∧ (v 33 = v1 26) ∧ (NWR 999 a b (f 15) (A 24)) ∧ (∀ q, q ≠ 24 → A q = f1 q) ∧ (gsY_X11_fill_1 NF v1 f1 w1 g = (v1, A, w1, g)) ∧ (∀ y : Nat → Nat → Int32, (∀ q, q ≠ 13 → q ≠ 14 → y q = f q) → ∀ m c, m < a → c < b → ∃ y' : Nat → Nat → Int32, (∀ q, q ≠ 13 → q ≠ 14 → y' q = f q) ∧ gsX_X1_illness_1 NF (nI m) (nI c) v y = (R m c, v, y') ∧ gsX_X1_fits_1 NF (nI m) (nI c) v y = ((if v 33 < R m c then 0 else 1), v, y')) ∧ (∀ z : Nat → Nat → Int32, (∀ q, q ≠ 7 → q ≠ 8 → z q = A q) → ∀ m c, m < a → c < b → ∃ z' : Nat → Nat → Int32, (∀ q, q ≠ 7 → q ≠ 8 → z' q = A q) ∧ gsY_X11_misfitOf_1 NF (nI m) (nI c) v1 z w1 g = (R m c, v1, z', w1, g) ∧ gsY_X11_fits_1 NF (nI m) (nI c) v1 z w1 g = ((if v 33 < R m c then 0 else 1), v1, z', w1, g)) ∧ (∀ m c, m < a → c < b → 0 ≤ R m c ∧ R m c ≤ 999)
theorem QC.a1 {NF : Nat} {v : Nat → Int32} {f : Nat → Nat → Int32} {v1 : Nat → Int32} {f1 : Nat → Nat → Int32} {w1 : Int64} {g : Nat → Int64} {a b : Nat} {A : Nat → Nat → Int32} {R : Nat → Nat → Int32} (h : QC NF v f v1 f1 w1 g a b A R) : v 31 = nI a := h.1
theorem QC.a2 {NF : Nat} {v : Nat → Int32} {f : Nat → Nat → Int32} {v1 : Nat → Int32} {f1 : Nat → Nat → Int32} {w1 : Int64} {g : Nat → Int64} {a b : Nat} {A : Nat → Nat → Int32} {R : Nat → Nat → Int32} (h : QC NF v f v1 f1 w1 g a b A R) : v1 24 = nI a := h.2.1
theorem QC.a3 {NF : Nat} {v : Nat → Int32} {f : Nat → Nat → Int32} {v1 : Nat → Int32} {f1 : Nat → Nat → Int32} {w1 : Int64} {g : Nat → Int64} {a b : Nat} {A : Nat → Nat → Int32} {R : Nat → Nat → Int32} (h : QC NF v f v1 f1 w1 g a b A R) : a ≤ 6 := h.2.2.1
theorem QC.b1 {NF : Nat} {v : Nat → Int32} {f : Nat → Nat → Int32} {v1 : Nat → Int32} {f1 : Nat → Nat → Int32} {w1 : Int64} {g : Nat → Int64} {a b : Nat} {A : Nat → Nat → Int32} {R : Nat → Nat → Int32} (h : QC NF v f v1 f1 w1 g a b A R) : v 32 = nI b := h.2.2.2.1
theorem QC.b2 {NF : Nat} {v : Nat → Int32} {f : Nat → Nat → Int32} {v1 : Nat → Int32} {f1 : Nat → Nat → Int32} {w1 : Int64} {g : Nat → Int64} {a b : Nat} {A : Nat → Nat → Int32} {R : Nat → Nat → Int32} (h : QC NF v f v1 f1 w1 g a b A R) : v1 25 = nI b := h.2.2.2.2.1
theorem QC.b3 {NF : Nat} {v : Nat → Int32} {f : Nat → Nat → Int32} {v1 : Nat → Int32} {f1 : Nat → Nat → Int32} {w1 : Int64} {g : Nat → Int64} {a b : Nat} {A : Nat → Nat → Int32} {R : Nat → Nat → Int32} (h : QC NF v f v1 f1 w1 g a b A R) : b ≤ 6 := h.2.2.2.2.2.1
theorem QC.sm {NF : Nat} {v : Nat → Int32} {f : Nat → Nat → Int32} {v1 : Nat → Int32} {f1 : Nat → Nat → Int32} {w1 : Int64} {g : Nat → Int64} {a b : Nat} {A : Nat → Nat → Int32} {R : Nat → Nat → Int32} (h : QC NF v f v1 f1 w1 g a b A R) : STM f f1 a := h.2.2.2.2.2.2.1
theorem QC.es {NF : Nat} {v : Nat → Int32} {f : Nat → Nat → Int32} {v1 : Nat → Int32} {f1 : Nat → Nat → Int32} {w1 : Int64} {g : Nat → Int64} {a b : Nat} {A : Nat → Nat → Int32} {R : Nat → Nat → Int32} (h : QC NF v f v1 f1 w1 g a b A R) : v 33 = v1 26 := h.2.2.2.2.2.2.2.1
theorem QC.nw {NF : Nat} {v : Nat → Int32} {f : Nat → Nat → Int32} {v1 : Nat → Int32} {f1 : Nat → Nat → Int32} {w1 : Int64} {g : Nat → Int64} {a b : Nat} {A : Nat → Nat → Int32} {R : Nat → Nat → Int32} (h : QC NF v f v1 f1 w1 g a b A R) : NWR 999 a b (f 15) (A 24) := h.2.2.2.2.2.2.2.2.1
theorem QC.fA {NF : Nat} {v : Nat → Int32} {f : Nat → Nat → Int32} {v1 : Nat → Int32} {f1 : Nat → Nat → Int32} {w1 : Int64} {g : Nat → Int64} {a b : Nat} {A : Nat → Nat → Int32} {R : Nat → Nat → Int32} (h : QC NF v f v1 f1 w1 g a b A R) : ∀ q, q ≠ 24 → A q = f1 q := h.2.2.2.2.2.2.2.2.2.1
theorem QC.fl {NF : Nat} {v : Nat → Int32} {f : Nat → Nat → Int32} {v1 : Nat → Int32} {f1 : Nat → Nat → Int32} {w1 : Int64} {g : Nat → Int64} {a b : Nat} {A : Nat → Nat → Int32} {R : Nat → Nat → Int32} (h : QC NF v f v1 f1 w1 g a b A R) : gsY_X11_fill_1 NF v1 f1 w1 g = (v1, A, w1, g) := h.2.2.2.2.2.2.2.2.2.2.1
theorem QC.fX {NF : Nat} {v : Nat → Int32} {f : Nat → Nat → Int32} {v1 : Nat → Int32} {f1 : Nat → Nat → Int32} {w1 : Int64} {g : Nat → Int64} {a b : Nat} {A : Nat → Nat → Int32} {R : Nat → Nat → Int32} (h : QC NF v f v1 f1 w1 g a b A R) : ∀ y : Nat → Nat → Int32, (∀ q, q ≠ 13 → q ≠ 14 → y q = f q) → ∀ m c, m < a → c < b → ∃ y' : Nat → Nat → Int32, (∀ q, q ≠ 13 → q ≠ 14 → y' q = f q) ∧ gsX_X1_illness_1 NF (nI m) (nI c) v y = (R m c, v, y') ∧ gsX_X1_fits_1 NF (nI m) (nI c) v y = ((if v 33 < R m c then 0 else 1), v, y') := h.2.2.2.2.2.2.2.2.2.2.2.1
theorem QC.fY {NF : Nat} {v : Nat → Int32} {f : Nat → Nat → Int32} {v1 : Nat → Int32} {f1 : Nat → Nat → Int32} {w1 : Int64} {g : Nat → Int64} {a b : Nat} {A : Nat → Nat → Int32} {R : Nat → Nat → Int32} (h : QC NF v f v1 f1 w1 g a b A R) : ∀ z : Nat → Nat → Int32, (∀ q, q ≠ 7 → q ≠ 8 → z q = A q) → ∀ m c, m < a → c < b → ∃ z' : Nat → Nat → Int32, (∀ q, q ≠ 7 → q ≠ 8 → z' q = A q) ∧ gsY_X11_misfitOf_1 NF (nI m) (nI c) v1 z w1 g = (R m c, v1, z', w1, g) ∧ gsY_X11_fits_1 NF (nI m) (nI c) v1 z w1 g = ((if v 33 < R m c then 0 else 1), v1, z', w1, g) := h.2.2.2.2.2.2.2.2.2.2.2.2.1
theorem QC.rg {NF : Nat} {v : Nat → Int32} {f : Nat → Nat → Int32} {v1 : Nat → Int32} {f1 : Nat → Nat → Int32} {w1 : Int64} {g : Nat → Int64} {a b : Nat} {A : Nat → Nat → Int32} {R : Nat → Nat → Int32} (h : QC NF v f v1 f1 w1 g a b A R) : ∀ m c, m < a → c < b → 0 ≤ R m c ∧ R m c ≤ 999 := h.2.2.2.2.2.2.2.2.2.2.2.2.2
theorem FREL.qc {NF : Nat} {v : Nat → Int32} {f : Nat → Nat → Int32} {v1 : Nat → Int32} {f1 : Nat → Nat → Int32} (h : FREL v f v1 f1) (w1 : Int64) (g : Nat → Int64) : ∃ (a b : Nat) (A : Nat → Nat → Int32) (R : Nat → Nat → Int32), QC NF v f v1 f1 w1 g a b A R := by
  obtain ⟨hr, a, b, a1, a2, a3, b1, b2, b3, sm, sc, nw, ac, bx⟩ := h
  obtain ⟨A, q1, q2, q3⟩ := yFill (NF := NF) (V := v1) (F0 := f1) (W := w1) (G := g)
  have sf := hr.2.1.2.2
  have es := hr.2.1.2.1.1
  have nA : NWR 999 a b (f 15) (A 24) := nw.cg a3 b3 (fun _ _ => rfl) (fun k hk => q2 k hk)
  refine ⟨a, b, A, yI NF v1 A w1 g, a1, a2, a3, b1, b2, b3, sm, es, nA, q1, q3, fun y hy m c hm hc => ?_, fun z hz m c hm hc => ?_, fun m c hm hc => ?_⟩
  · obtain ⟨F', i1, i2, i3⟩ := fitX1 (NF := NF) (F := y) (F1 := A) (v1 := v1) (w1 := w1) (g := g) a1 a3 b1 b3 sm sf (show 999 ≤ 9999 by decide) (fun q hq => hy q (by omega) (by omega)) (fun q hq => q1 q (by omega)) (by rw [hy 15 (by decide) (by decide)]; exact nA.cms) hm hc
    exact ⟨F', fun q z1 z2 => (i3 q z1 z2).trans (hy q z1 z2), i1, i2⟩
  · obtain ⟨F', i1, i2, i3, _⟩ := illY (NF := NF) (F1 := A) (F2 := z) (w1 := w1) (g := g) a1 a3 b1 b3 sm sf (show 999 ≤ 9999 by decide) (fun q hq => q1 q (by omega)) (fun q hq => (hz q (by omega) (by omega)).trans (q1 q (by omega))) nA.cms (by rw [hz 24 (by decide) (by decide)]; exact nA.cms) hm hc
    rw [← es] at i2
    exact ⟨F', fun q z1 z2 => (i3 q z1 z2).trans (hz q z1 z2), i1, i2⟩
  · obtain ⟨F', _, _, _, i4⟩ := illY (NF := NF) (F1 := A) (F2 := A) (w1 := w1) (g := g) a1 a3 b1 b3 sm sf (show 999 ≤ 9999 by decide) (fun q hq => q1 q (by omega)) (fun q hq => q1 q (by omega)) nA.cms nA.cms hm hc
    exact i4
theorem accX {NF n : Nat} {v : Nat → Int32} {f : Nat → Nat → Int32} {L : Nat → Int32 → Int32 → (Nat → Int32) → (Nat → Nat → Int32) → Int32 × (Nat → Int32) × (Nat → Nat → Int32)} (S : Nat → Int32) (hn : n < 4294967296) (h1 : ∀ fu j y, j < n → (∀ q, q ≠ 13 → q ≠ 14 → y q = f q) → ∃ y' : Nat → Nat → Int32, (∀ q, q ≠ 13 → q ≠ 14 → y' q = f q) ∧ L (fu + 1) (S j) (nI j) v y = L fu (S (j + 1)) (nI (j + 1)) v y') (h2 : ∀ fu y, L (fu + 1) (S n) (nI n) v y = (S n, v, y)) (y0 : Nat → Nat → Int32) (hy : ∀ q, q ≠ 13 → q ≠ 14 → y0 q = f q) : ∃ y' : Nat → Nat → Int32, (∀ q, q ≠ 13 → q ≠ 14 → y' q = f q) ∧ L (4294967296 + NF) (S 0) (nI 0) v y0 = (S n, v, y') := by
  refine lpQ (S := Int32 × SX) (fun fu i s => L fu s.1 i s.2.1 s.2.2) (fun r => ∃ y' : Nat → Nat → Int32, (∀ q, q ≠ 13 → q ≠ 14 → y' q = f q) ∧ r = (S n, v, y')) (fun j s => ∃ y' : Nat → Nat → Int32, s = (S j, v, y') ∧ (∀ q, q ≠ 13 → q ≠ 14 → y' q = f q)) n ?_ ?_ n 0 (4294967296 + NF) (S 0, v, y0) (by omega) (by omega) ⟨y0, rfl, hy⟩
  · intro fu j s hj hs
    obtain ⟨y, rfl, hF⟩ := hs
    obtain ⟨y', q1, q2⟩ := h1 fu j y hj hF
    exact Or.inl ⟨(S (j + 1), v, y'), ⟨y', rfl, q1⟩, q2⟩
  · intro fu s hs
    obtain ⟨y, rfl, hF⟩ := hs
    exact ⟨y, hF, h2 fu y⟩
theorem accY {NF n : Nat} {v1 : Nat → Int32} {A : Nat → Nat → Int32} {w1 : Int64} {g : Nat → Int64} {L : Nat → Int32 → Int32 → (Nat → Int32) → (Nat → Nat → Int32) → Int64 → (Nat → Int64) → Int32 × (Nat → Int32) × (Nat → Nat → Int32) × Int64 × (Nat → Int64)} (S : Nat → Int32) (hn : n < 4294967296) (h1 : ∀ fu j y, j < n → (∀ q, q ≠ 7 → q ≠ 8 → y q = A q) → ∃ y' : Nat → Nat → Int32, (∀ q, q ≠ 7 → q ≠ 8 → y' q = A q) ∧ L (fu + 1) (S j) (nI j) v1 y w1 g = L fu (S (j + 1)) (nI (j + 1)) v1 y' w1 g) (h2 : ∀ fu y, L (fu + 1) (S n) (nI n) v1 y w1 g = (S n, v1, y, w1, g)) (y0 : Nat → Nat → Int32) (hy : ∀ q, q ≠ 7 → q ≠ 8 → y0 q = A q) : ∃ y' : Nat → Nat → Int32, (∀ q, q ≠ 7 → q ≠ 8 → y' q = A q) ∧ L (4294967296 + NF) (S 0) (nI 0) v1 y0 w1 g = (S n, v1, y', w1, g) := by
  refine lpQ (S := Int32 × SY) (fun fu i s => L fu s.1 i s.2.1 s.2.2.1 s.2.2.2.1 s.2.2.2.2) (fun r => ∃ y' : Nat → Nat → Int32, (∀ q, q ≠ 7 → q ≠ 8 → y' q = A q) ∧ r = (S n, v1, y', w1, g)) (fun j s => ∃ y' : Nat → Nat → Int32, s = (S j, v1, y', w1, g) ∧ (∀ q, q ≠ 7 → q ≠ 8 → y' q = A q)) n ?_ ?_ n 0 (4294967296 + NF) (S 0, v1, y0, w1, g) (by omega) (by omega) ⟨y0, rfl, hy⟩
  · intro fu j s hj hs
    obtain ⟨y, rfl, hF⟩ := hs
    obtain ⟨y', q1, q2⟩ := h1 fu j y hj hF
    exact Or.inl ⟨(S (j + 1), v1, y', w1, g), ⟨y', rfl, q1⟩, q2⟩
  · intro fu s hs
    obtain ⟨y, rfl, hF⟩ := hs
    exact ⟨y, hF, h2 fu y⟩
theorem acc0 {NF n : Nat} {L : Nat → Int32 → Int32 → Int32} (S : Nat → Int32) (hn : n < 4294967296) (h1 : ∀ fu j, j < n → L (fu + 1) (S j) (nI j) = L fu (S (j + 1)) (nI (j + 1))) (h2 : ∀ fu, L (fu + 1) (S n) (nI n) = S n) : L (4294967296 + NF) (S 0) (nI 0) = S n := by
  refine lpQ (S := Int32) (fun fu i s => L fu s i) (fun r => r = S n) (fun j s => s = S j) n ?_ ?_ n 0 (4294967296 + NF) (S 0) (by omega) (by omega) rfl
  · intro fu j s hj hs
    have hs : s = S j := hs
    subst hs
    exact Or.inl ⟨S (j + 1), rfl, h1 fu j hj⟩
  · intro fu s hs
    have hs : s = S n := hs
    subst hs
    exact h2 fu
def cntB (p : Nat → Bool) : Nat → Nat
  | 0 => 0
  | n + 1 => cntB p n + (if p n = true then 1 else 0)
theorem cntB_le (p : Nat → Bool) : ∀ n, cntB p n ≤ n := by
  intro n
  induction n with
  | zero => exact Nat.le_refl _
  | succ n ih =>
    show cntB p n + (if p n = true then 1 else 0) ≤ n + 1
    by_cases c : p n = true
    · rw [if_pos c]; omega
    · rw [if_neg c]; omega
theorem cntB_1 {p : Nat → Bool} {n : Nat} (h : p n = true) : nI (cntB p n) + 1 = nI (cntB p (n + 1)) := by
  show _ = nI (cntB p n + (if p n = true then 1 else 0))
  rw [if_pos h, nI_1]
theorem cntB_0 {p : Nat → Bool} {n : Nat} (h : ¬ p n = true) : nI (cntB p n) = nI (cntB p (n + 1)) := by
  show _ = nI (cntB p n + (if p n = true then 1 else 0))
  rw [if_neg h, Nat.add_zero]
theorem nI_add0 (n : Nat) : nI n + 0 = nI n := nI_add n 0
def fB (e : Int32) (R : Nat → Nat → Int32) (m c : Nat) : Bool := decide (¬ e < R m c)
theorem fB_1 {e : Int32} {R : Nat → Nat → Int32} {m c : Nat} (h : ¬ e < R m c) : fB e R m c = true := decide_eq_true h
theorem fB_0 {e : Int32} {R : Nat → Nat → Int32} {m c : Nat} (h : e < R m c) : ¬ fB e R m c = true := by
  unfold fB
  rw [decide_eq_false (fun q => q h)]
  decide
end
end
section
section
variable {NF : Nat} {v : Nat → Int32} {f : Nat → Nat → Int32} {v1 : Nat → Int32} {f1 : Nat → Nat → Int32} {w1 : Int64} {g : Nat → Int64} {r r' : Int32} {u : (Nat → Int32) × (Nat → Nat → Int32)} {u' : (Nat → Int32) × (Nat → Nat → Int32) × Int64 × (Nat → Int64)}
theorem QC.fittedX {a b : Nat} {A R : Nat → Nat → Int32} (Q : QC NF v f v1 f1 w1 g a b A R) {y0 : Nat → Nat → Int32} (hy : ∀ q, q ≠ 13 → q ≠ 14 → y0 q = f q) : ∃ y' : Nat → Nat → Int32, (∀ q, q ≠ 13 → q ≠ 14 → y' q = f q) ∧ gsX_X1_fittedMen_1 NF v y0 = (nI (bts (ftB (v 33) R (f 15)) a), v, y') := by
  refine accX (NF := NF) (v := v) (f := f) (L := fun fu s i w y => gsX_X1_fittedMen_1_L1 NF v fu s i w y) (fun j => nI (bts (ftB (v 33) R (f 15)) j)) (by have := Q.a3; omega) (fun fu j y hj hF => ?_) (fun fu y => ?_) y0 hy
  · obtain ⟨o1, o2⟩ := bts_or (p := ftB (v 33) R (f 15)) (n := j) (by have := Q.a3; omega)
    have yw : gsX_X1_wears_1 NF (nI j) v y = f 15 (6 + j) := (xWears1 Q.a1 Q.a3 hj).trans (by rw [hF 15 (by decide) (by decide)])
    have nle : ¬ nI a ≤ nI j := nI_ge hj (by have := Q.a3; omega)
    rcases (Q.nw.1 j hj).2.2.2 with q2 | ⟨c, hc, q2⟩
    · have s0 : ¬ ftB (v 33) R (f 15) j = true := by unfold ftB; rw [wrB_0 q2, Bool.false_and]; decide
      refine ⟨y, hF, ?_⟩
      show gsX_X1_fittedMen_1_L1 NF v (fu + 1) (nI (bts (ftB (v 33) R (f 15)) j)) (nI j) v y = gsX_X1_fittedMen_1_L1 NF v fu (nI (bts (ftB (v 33) R (f 15)) (j + 1))) (nI (j + 1)) v y
      rw [← (o2 s0).2]
      conv => lhs; unfold gsX_X1_fittedMen_1_L1
      simp only [Q.a1, yw, q2, fitX01 (NF := NF) (F := y) Q.a1 Q.a3 Q.b1 Q.b3 hj, ite01, nI_1]
      rw [if_neg nle]
    · have w1' := wrB_1 (x := f 15) (m := j) (by rw [q2]; exact nI_nm1 (by have := Q.b3; omega))
      have ec : nv (f 15 (6 + j)) = c := by rw [q2]; exact nv_nI (by have := Q.b3; omega)
      obtain ⟨B, i1, _, i3⟩ := Q.fX y hF j c hj hc
      have ef : ftB (v 33) R (f 15) j = decide (¬ v 33 < R j c) := by unfold ftB; rw [w1', ec, Bool.true_and]
      refine ⟨B, i1, ?_⟩
      show gsX_X1_fittedMen_1_L1 NF v (fu + 1) (nI (bts (ftB (v 33) R (f 15)) j)) (nI j) v y = gsX_X1_fittedMen_1_L1 NF v fu (nI (bts (ftB (v 33) R (f 15)) (j + 1))) (nI (j + 1)) v B
      by_cases z : v 33 < R j c
      · rw [← (o2 (by rw [ef, decide_eq_false (fun q => q z)]; decide)).2]
        rw [if_pos z] at i3
        conv => lhs; unfold gsX_X1_fittedMen_1_L1
        simp only [Q.a1, yw, q2, i3, ite01, nI_1]
        rw [if_neg nle]
      · rw [← o1 (by rw [ef, decide_eq_true z])]
        rw [if_neg z] at i3
        conv => lhs; unfold gsX_X1_fittedMen_1_L1
        simp only [Q.a1, yw, q2, i3, ite11, if_true, nI_1]
        rw [if_neg nle]
  · show gsX_X1_fittedMen_1_L1 NF v (fu + 1) (nI (bts (ftB (v 33) R (f 15)) a)) (nI a) v y = _
    simp only [gsX_X1_fittedMen_1_L1, Q.a1]
    rw [if_pos (nI_le (Nat.le_refl _) (by have := Q.a3; omega))]
theorem QC.fittedY {a b : Nat} {A R : Nat → Nat → Int32} (Q : QC NF v f v1 f1 w1 g a b A R) {z0 : Nat → Nat → Int32} (hz : ∀ q, q ≠ 7 → q ≠ 8 → z0 q = A q) : ∃ z' : Nat → Nat → Int32, (∀ q, q ≠ 7 → q ≠ 8 → z' q = A q) ∧ gsY_X11_fittedOnes_1 NF v1 z0 w1 g = (nI (bts (ftB (v 33) R (f 15)) a), v1, z', w1, g) := by
  refine accY (NF := NF) (v1 := v1) (A := A) (w1 := w1) (g := g) (L := fun fu s i w y p q => gsY_X11_fittedOnes_1_L1 NF v1 fu s i w y p q) (fun j => nI (bts (ftB (v 33) R (f 15)) j)) (by have := Q.a3; omega) (fun fu j y hj hF => ?_) (fun fu y => ?_) z0 hz
  · obtain ⟨o1, o2⟩ := bts_or (p := ftB (v 33) R (f 15)) (n := j) (by have := Q.a3; omega)
    have k6 : (6 : Int32) + nI j = nI (6 + j) := nI_add 6 j
    have c6 : (nI (6 + j)).toNatClampNeg = 6 + j := nI_clamp (by have := Q.a3; omega)
    have y24 : y 24 = A 24 := hF 24 (by decide) (by decide)
    have nle : ¬ nI a ≤ nI j := nI_ge hj (by have := Q.a3; omega)
    obtain ⟨_, _, q1, q2⟩ := Q.nw.1 j hj
    rcases q2 with q2 | ⟨c, hc, q2⟩
    · have s0 : ¬ ftB (v 33) R (f 15) j = true := by unfold ftB; rw [wrB_0 q2, Bool.false_and]; decide
      have fo : gsY_X11_fitsOwn_1 NF (nI j) v1 y w1 g = (0, v1, y, w1, g) := by
        simp only [gsY_X11_fitsOwn_1, k6, c6, y24, ← q1, q2, gsY_X11_fits_1, if_pos m1_lt, ite01]
      refine ⟨y, hF, ?_⟩
      show gsY_X11_fittedOnes_1_L1 NF v1 (fu + 1) (nI (bts (ftB (v 33) R (f 15)) j)) (nI j) v1 y w1 g = gsY_X11_fittedOnes_1_L1 NF v1 fu (nI (bts (ftB (v 33) R (f 15)) (j + 1))) (nI (j + 1)) v1 y w1 g
      rw [← (o2 s0).1]
      conv => lhs; unfold gsY_X11_fittedOnes_1_L1
      simp only [Q.a2, fo, ite01, show gsY_X11_truth_1 NF 0 v1 y w1 g = 0 from rfl, nI_1]
      rw [if_neg nle]
    · have w1' := wrB_1 (x := f 15) (m := j) (by rw [q2]; exact nI_nm1 (by have := Q.b3; omega))
      have ec : nv (f 15 (6 + j)) = c := by rw [q2]; exact nv_nI (by have := Q.b3; omega)
      obtain ⟨B, i1, _, i3⟩ := Q.fY y hF j c hj hc
      have ef : ftB (v 33) R (f 15) j = decide (¬ v 33 < R j c) := by unfold ftB; rw [w1', ec, Bool.true_and]
      refine ⟨B, i1, ?_⟩
      show gsY_X11_fittedOnes_1_L1 NF v1 (fu + 1) (nI (bts (ftB (v 33) R (f 15)) j)) (nI j) v1 y w1 g = gsY_X11_fittedOnes_1_L1 NF v1 fu (nI (bts (ftB (v 33) R (f 15)) (j + 1))) (nI (j + 1)) v1 B w1 g
      by_cases z : v 33 < R j c
      · rw [if_pos z] at i3
        have fo : gsY_X11_fitsOwn_1 NF (nI j) v1 y w1 g = (0, v1, B, w1, g) := by
          simp only [gsY_X11_fitsOwn_1, k6, c6, y24, ← q1, q2, i3, ite01]
        rw [← (o2 (by rw [ef, decide_eq_false (fun q => q z)]; decide)).1]
        conv => lhs; unfold gsY_X11_fittedOnes_1_L1
        simp only [Q.a2, fo, ite01, show gsY_X11_truth_1 NF 0 v1 B w1 g = 0 from rfl, nI_1]
        rw [if_neg nle]
      · rw [if_neg z] at i3
        have fo : gsY_X11_fitsOwn_1 NF (nI j) v1 y w1 g = (1, v1, B, w1, g) := by
          simp only [gsY_X11_fitsOwn_1, k6, c6, y24, ← q1, q2, i3, ite11, if_true]
        rw [← o1 (by rw [ef, decide_eq_true z])]
        conv => lhs; unfold gsY_X11_fittedOnes_1_L1
        simp only [Q.a2, fo, ite11, if_true, show gsY_X11_truth_1 NF 1 v1 B w1 g = 1 from rfl, nI_1]
        rw [if_neg nle]
  · show gsY_X11_fittedOnes_1_L1 NF v1 (fu + 1) (nI (bts (ftB (v 33) R (f 15)) a)) (nI a) v1 y w1 g = _
    simp only [gsY_X11_fittedOnes_1_L1, Q.a2]
    rw [if_pos (nI_le (Nat.le_refl _) (by have := Q.a3; omega))]
theorem FREL.fitted (h : FREL v f v1 f1) (e : gsX_X10_fitted_1 NF v f = (r, u)) (e' : gsY_X11_fitted_1 NF v1 f1 w1 g = (r', u')) : r = r' := by
  obtain ⟨a, b, A, R, Q⟩ := h.qc (NF := NF) w1 g
  obtain ⟨B, _, i2⟩ := Q.fittedX (y0 := f) (fun _ _ _ => rfl)
  obtain ⟨C, _, j2⟩ := Q.fittedY (z0 := A) (fun _ _ _ => rfl)
  simp only [gsX_X10_fitted_1, i2] at e
  simp only [gsY_X11_fitted_1, Q.fl, j2] at e'
  cases e; cases e'
  rfl
end
end
