section
section
variable {NF : Nat}
def agr (d : Nat) (s s1 : Nat → Int32) : Prop := ∀ k, k < d → s k = s1 k
theorem agr.push {d : Nat} {s s1 : Nat → Int32} {x y : Int32} (h : agr d s s1) (e : x = y) : agr (d + 1) (upd s d x) (upd s1 d y) := fun k hk => by
  by_cases c : k = d
  · rw [c, pk_us, pk_us]; exact e
  · rw [pk_un c, pk_un c]; exact h k (by omega)
theorem agr.set {d j : Nat} {s s1 : Nat → Int32} {x y : Int32} (h : agr d s s1) (e : x = y) : agr d (upd s j x) (upd s1 j y) := fun k hk => by
  by_cases c : k = j
  · rw [c, pk_us, pk_us]; exact e
  · rw [pk_un c, pk_un c]; exact h k hk
theorem agr.less {d e : Nat} {s s1 : Nat → Int32} (h : agr d s s1) (he : e ≤ d) : agr e s s1 := fun k hk => h k (by omega)
theorem joinP {K : Nat} (h : fSg K = true) (a b : Int32) (v : Nat → Int32) (f : Nat → Nat → Int32) (v1 : Nat → Int32) (f1 : Nat → Nat → Int32) (w1 : Int64) (g : Nat → Int64) : gsX_X4_joined_1 NF (nI K) a b v f = gsY_X11_done_1 NF (nI (eS K)) a b v1 f1 w1 g := by
  simp only [fSg, List.contains_eq_mem, decide_eq_true_eq, List.mem_cons, List.mem_nil_iff, or_false] at h
  rcases h with h | h | h | h | h | h | h | h | h | h <;> (subst h; rfl)
theorem sg_lt {K : Nat} (h : fSg K = true) : K < 115 ∧ K ≠ 2 ∧ eA K = 3 ∧ ∀ x, eB K x = nI (eS K) := by
  simp only [fSg, List.contains_eq_mem, decide_eq_true_eq, List.mem_cons, List.mem_nil_iff, or_false] at h
  rcases h with h | h | h | h | h | h | h | h | h | h <;> (subst h; exact ⟨by decide, by decide, rfl, fun _ => rfl⟩)
def cl9 (x : Int32) : Int32 := if 0 ≤ x then (if x ≤ 999 then x else 999) else 0
theorem cl9X (x : Int32) : (if (0 : Int32) < (if x < (999 : Int32) then x else (999 : Int32)) then (if x < (999 : Int32) then x else (999 : Int32)) else (0 : Int32)) = cl9 x := by
  have z0 : (0 : Int32).toInt = 0 := by decide
  have z9 : (999 : Int32).toInt = 999 := by decide
  unfold cl9
  by_cases c : x < 999
  · have c' := (fa_lt _ _).mp c
    rw [if_pos c]
    by_cases d : 0 < x
    · have d' := (fa_lt _ _).mp d
      rw [if_pos d, if_pos ((fa_le _ _).mpr (by omega)), if_pos ((fa_le _ _).mpr (by omega))]
    · have d' : ¬ (0 : Int32).toInt < x.toInt := fun z => d ((fa_lt _ _).mpr z)
      rw [if_neg d]
      by_cases e : 0 ≤ x
      · have e' := (fa_le _ _).mp e
        have e0 : x = 0 := Int32.toInt_inj.mp (by omega)
        rw [if_pos e, e0]
        exact (if_pos (by decide)).symm
      · rw [if_neg e]
  · have c' : ¬ x.toInt < (999 : Int32).toInt := fun z => c ((fa_lt _ _).mpr z)
    rw [if_neg c, if_pos (by decide), if_pos ((fa_le _ _).mpr (by omega))]
    by_cases e : x ≤ 999
    · have e' := (fa_le _ _).mp e
      have e0 : x = 999 := Int32.toInt_inj.mp (by omega)
      rw [if_pos e, e0]
    · rw [if_neg e]
theorem cl9_rng (x : Int32) : 0 ≤ cl9 x ∧ cl9 x ≤ 999 := by
  unfold cl9
  by_cases c : 0 ≤ x
  · rw [if_pos c]
    by_cases d : x ≤ 999
    · rw [if_pos d]; exact ⟨c, d⟩
    · rw [if_neg d]; exact ⟨by decide, by decide⟩
  · rw [if_neg c]; exact ⟨by decide, by decide⟩
section
variable {v v1 : Nat → Int32} {f0 f10 : Nat → Nat → Int32} {w1 : Int64} {g : Nat → Int64} {out : List (Nat × Int32)}
theorem evLoop (hv : v 18 = nI out.length) (hv1 : v1 9 = nI out.length) (hl : out.length ≤ 270) (hk : ∀ x ∈ out, okK x.1) (hO : ∀ j, j < out.length → f0 11 j = nI (out.getD j (0, 0)).1 ∧ ((out.getD j (0, 0)).1 = 2 → f0 12 j = (out.getD j (0, 0)).2) ∧ f10 4 j = nI (eA (out.getD j (0, 0)).1) ∧ f10 5 j = eB (out.getD j (0, 0)).1 (out.getD j (0, 0)).2) (hA : agr 6 (f0 14) (f10 8)) :
    ∀ (n i d fu fu1 : Nat) (f f1 : Nat → Nat → Int32), i + n = out.length → n < fu → n < fu1 → wfS (out.drop i) d = some 1 → d + wfN (out.drop i) ≤ 30 → (∀ q, q ≠ 13 → f q = f0 q) → (∀ q, q ≠ 7 → f1 q = f10 q) → agr d (f 13) (f1 7) →
      ∃ (r : Int32) (F F1 : Nat → Nat → Int32), gsX_X4_worth_1_L16 NF fu (nI d) (nI i) v f = (r, v, F) ∧ gsY_X11_misfitOf_1_L30 NF v1 fu1 (nI d) (nI i) v1 f1 w1 g = (r, v1, F1, w1, g) ∧ (∀ q, q ≠ 13 → F q = f0 q) ∧ (∀ q, q ≠ 7 → F1 q = f10 q) ∧ (0 ≤ r ∧ r ≤ 999) := by
  intro n
  induction n with
  | zero =>
    intro i d fu fu1 f f1 hi hfu hfu1 hw hd hF hF1 ha
    obtain ⟨fu, rfl⟩ : ∃ z, fu = z + 1 := ⟨fu - 1, by omega⟩
    obtain ⟨fu1, rfl⟩ : ∃ z, fu1 = z + 1 := ⟨fu1 - 1, by omega⟩
    have ei : i = out.length := by omega
    rw [ei, List.drop_length] at hw
    have hd1 : d = 1 := by simpa [wfS] using hw
    have le : nI out.length ≤ nI i := nI_le (by omega) (by omega)
    have e0 : f1 7 0 = f 13 0 := (ha 0 (by omega)).symm
    refine ⟨cl9 (f 13 0), f, f1, ?_, ?_, hF, hF1, cl9_rng _⟩
    · simp only [gsX_X4_worth_1_L16, hv]
      rw [if_pos le]
      have q := cl9X (f 13 0)
      have q0 : (0 : Int32).toNatClampNeg = 0 := by decide
      rw [q0, q]
    · simp only [gsY_X11_misfitOf_1_L30, hv1, gsY_X11_within_1]
      rw [if_pos le]
      have q0 : (0 : Int32).toNatClampNeg = 0 := by decide
      rw [q0, e0]
      rfl
  | succ n ih =>
    intro i d fu fu1 f f1 hi hfu hfu1 hw hd hF hF1 ha
    obtain ⟨fu, rfl⟩ : ∃ z, fu = z + 1 := ⟨fu - 1, by omega⟩
    obtain ⟨fu1, rfl⟩ : ∃ z, fu1 = z + 1 := ⟨fu1 - 1, by omega⟩
    have hil : i < out.length := by omega
    have nle : ¬ nI out.length ≤ nI i := nI_ge hil (by omega)
    have n300 : ¬ (300 : Int32) ≤ nI i := lit_nle (b := 300) rfl (by omega) (by decide)
    obtain ⟨o1, o2, o3, o4⟩ := hO i hil
    have ed : out.drop i = out[i] :: out.drop (i + 1) := List.drop_eq_getElem_cons hil
    have eg : out.getD i (0, 0) = out[i] := by simp [List.getD_eq_getElem?_getD, hil]
    rw [eg] at o1 o2 o3 o4
    have ok : okK out[i].1 := hk _ (List.getElem_mem hil)
    rw [ed] at hw hd
    rw [← hF 11 (by decide)] at o1
    rw [← hF 12 (by decide)] at o2
    rw [← hF1 4 (by decide)] at o3
    rw [← hF1 5 (by decide)] at o4
    generalize out[i] = x at *
    obtain ⟨K, y⟩ := x
    have o1 : f 11 i = nI K := o1
    have o2 : K = 2 → f 12 i = y := o2
    have o3 : f1 4 i = nI (eA K) := o3
    have o4 : f1 5 i = eB K y := o4
    have hw : (if wfP K = true then wfS (out.drop (i + 1)) (d + 1) else if K = 115 then (if 1 ≤ d then wfS (out.drop (i + 1)) d else none) else (if 2 ≤ d then wfS (out.drop (i + 1)) (d - 1) else none)) = some 1 := hw
    have hd : d + ((if wfP K = true then 1 else 0) + wfN (out.drop (i + 1))) ≤ 30 := hd
    have ci : (nI i).toNatClampNeg = i := nI_clamp (by omega)
    have cd : (nI d).toNatClampNeg = d := nI_clamp (by omega)
    rcases ok with hp | rfl | hs
    · have hp : wfP K = true := hp
      rw [if_pos hp] at hw hd
      have d30 : ¬ (30 : Int32) ≤ nI d := lit_nle (b := 30) rfl (by omega) (by decide)
      have hp' : K = 2 ∨ (116 ≤ K ∧ K ≤ 121) := by
        simp only [wfP, Bool.or_eq_true, beq_iff_eq, Bool.and_eq_true, decide_eq_true_eq] at hp
        exact hp
      have hK : K < 2 ^ 31 := by omega
      by_cases c2 : K = 2
      · subst c2
        obtain ⟨r, F, F1, a1, a2, a3, a4, a5⟩ := ih (i + 1) (d + 1) fu fu1 (upd2 f 13 (upd (f 13) d (f 12 i))) (upd2 f1 7 (upd (f1 7) d (f1 5 i))) (by omega) (by omega) (by omega) hw (by omega) (fun q hq => (u2n hq).trans (hF q hq)) (fun q hq => (u2n hq).trans (hF1 q hq)) (ha.push (by rw [o2 rfl, o4]; rfl))
        refine ⟨r, F, F1, ?_, ?_, a3, a4, a5⟩
        · rw [← a1]
          simp only [gsX_X4_worth_1_L16, hv, ci, o1, cd, nI_1]
          rw [if_neg nle, if_neg n300, if_pos (show nI 2 = (2 : Int32) from rfl), if_neg d30, if_pos (show nI 2 = (2 : Int32) from rfl)]
        · rw [← a2]
          simp only [gsY_X11_misfitOf_1_L30, hv1, ci, o3, cd, nI_1]
          rw [if_neg nle, if_pos (show nI (eA 2) = (0 : Int32) from rfl), if_pos (show nI (eA 2) = (0 : Int32) from rfl)]
      · obtain ⟨k1, k2⟩ := hp'.resolve_left c2
        have eA1 : eA K = 1 := by unfold eA; rw [if_neg c2, if_pos ⟨k1, k2⟩]
        have eB1 : eB K y = nI (K - 116) := by unfold eB; rw [if_neg c2, if_pos ⟨k1, k2⟩]
        have x2 : ¬ nI K = (2 : Int32) := nlit 2 2 rfl hK (by decide) c2
        have x116 : ¬ nI K < (116 : Int32) := nI_nlt (b := 116) k1 hK
        have x122 : ¬ (122 : Int32) ≤ nI K := lit_nle (b := 122) rfl (by omega) (by decide)
        have e116 : nI K - 116 = nI (K - 116) := nI_subI (b := 116) k1
        have c116 : (nI (K - 116)).toNatClampNeg = K - 116 := nI_clamp (by omega)
        rw [eA1] at o3
        rw [eB1] at o4
        obtain ⟨r, F, F1, a1, a2, a3, a4, a5⟩ := ih (i + 1) (d + 1) fu fu1 (upd2 f 13 (upd (f 13) d (f 14 (K - 116)))) (upd2 f1 7 (upd (f1 7) d (f1 8 (K - 116)))) (by omega) (by omega) (by omega) hw (by omega) (fun q hq => (u2n hq).trans (hF q hq)) (fun q hq => (u2n hq).trans (hF1 q hq)) (ha.push (by rw [hF 14 (by decide), hF1 8 (by decide)]; exact hA _ (by omega)))
        refine ⟨r, F, F1, ?_, ?_, a3, a4, a5⟩
        · rw [← a1]
          simp only [gsX_X4_worth_1_L16, hv, ci, o1, cd, nI_1, e116, c116]
          rw [if_neg nle, if_neg n300, if_neg x2, if_neg x116, if_neg x122, if_neg d30, if_neg x2]
        · rw [← a2]
          simp only [gsY_X11_misfitOf_1_L30, hv1, ci, o3, o4, cd, nI_1, c116]
          rw [if_neg nle, if_neg (show ¬ nI 1 = (0 : Int32) by decide), if_pos (show nI 1 = (1 : Int32) from rfl), if_neg (show ¬ nI 1 = (0 : Int32) by decide)]
    · rw [if_neg (show ¬ wfP 115 = true by decide)] at hw hd
      rw [if_pos rfl] at hw
      by_cases cd1 : 1 ≤ d
      · rw [if_pos cd1] at hw
        have x1 : ¬ nI d < (1 : Int32) := nI_nlt (b := 1) cd1 (by omega)
        have e1 : nI d - 1 = nI (d - 1) := nI_subI (b := 1) cd1
        have c1 : (nI (d - 1)).toNatClampNeg = d - 1 := nI_clamp (by omega)
        have es : f 13 (d - 1) = f1 7 (d - 1) := ha _ (by omega)
        have t1 : gsY_X11_truth_1 NF 1 v1 f1 w1 g = 1 := rfl
        have t0 : gsY_X11_truth_1 NF 0 v1 f1 w1 g = 0 := rfl
        have o3 : f1 4 i = nI 2 := o3
        obtain ⟨r, F, F1, a1, a2, a3, a4, a5⟩ := ih (i + 1) d fu fu1 (upd2 f 13 (upd (f 13) (d - 1) (if f1 7 (d - 1) = 0 then 1 else 0))) (upd2 f1 7 (upd (f1 7) (d - 1) (if f1 7 (d - 1) = 0 then 1 else 0))) (by omega) (by omega) (by omega) hw (by omega) (fun q hq => (u2n hq).trans (hF q hq)) (fun q hq => (u2n hq).trans (hF1 q hq)) (ha.set rfl)
        refine ⟨r, F, F1, ?_, ?_, a3, a4, a5⟩
        · rw [← a1]
          simp only [gsX_X4_worth_1_L16, hv, ci, o1, nI_1, e1, c1, es]
          rw [if_neg nle, if_neg n300, if_neg (show ¬ nI 115 = (2 : Int32) by decide), if_pos (show nI 115 < (116 : Int32) by decide), if_pos (show nI 115 = (115 : Int32) from rfl), if_neg x1]
          by_cases z : f1 7 (d - 1) = 0
          · rw [if_pos z, if_pos z]
          · rw [if_neg z, if_neg z]
        · rw [← a2]
          simp only [gsY_X11_misfitOf_1_L30, hv1, ci, o3, nI_1, e1, c1, t1, t0]
          rw [if_neg nle, if_neg (show ¬ nI 2 = (0 : Int32) by decide), if_neg (show ¬ nI 2 = (1 : Int32) by decide), if_pos (show nI 2 = (2 : Int32) from rfl)]
          by_cases z : f1 7 (d - 1) = 0
          · rw [if_pos z, if_pos z]
          · rw [if_neg z, if_neg z]
      · rw [if_neg cd1] at hw; cases hw
    · have hs : fSg K = true := hs
      obtain ⟨g1, g2, g3⟩ := wf_sg' hs
      obtain ⟨s1, s2, s3, s4⟩ := sg_lt hs
      rw [if_neg (show ¬ wfP K = true by rw [g1]; decide)] at hw hd
      rw [if_neg g3] at hw
      by_cases cd2 : 2 ≤ d
      · rw [if_pos cd2] at hw
        have hK : K < 2 ^ 31 := by omega
        have x2 : ¬ nI d < (2 : Int32) := nI_nlt (b := 2) cd2 (by omega)
        have e1 : nI d - 1 = nI (d - 1) := nI_subI (b := 1) (by omega)
        have e2 : nI d - 2 = nI (d - 2) := nI_subI (b := 2) cd2
        have em : nI d + (-1) = nI (d - 1) := by rw [← e1]; exact (Int32.sub_eq_add_neg _ _).symm
        have e3 : nI (d - 1) - 1 = nI (d - 2) := nI_subI (b := 1) (by omega)
        have c1 : (nI (d - 1)).toNatClampNeg = d - 1 := nI_clamp (by omega)
        have c2 : (nI (d - 2)).toNatClampNeg = d - 2 := nI_clamp (by omega)
        have k2 : ¬ nI K = (2 : Int32) := nlit 2 2 rfl hK (by decide) s2
        have k116 : nI K < (116 : Int32) := nI_lt (b := 116) (by omega) (by decide)
        have k115 : ¬ nI K = (115 : Int32) := nlit 115 115 rfl hK (by decide) g3
        rw [s3] at o3
        rw [s4] at o4
        have ea : f 13 (d - 2) = f1 7 (d - 2) := ha _ (by omega)
        have eb : f 13 (d - 1) = f1 7 (d - 1) := ha _ (by omega)
        obtain ⟨r, F, F1, a1, a2, a3, a4, a5⟩ := ih (i + 1) (d - 1) fu fu1 (upd2 f 13 (upd (f 13) (d - 2) (gsX_X4_joined_1 NF (nI K) (f1 7 (d - 2)) (f1 7 (d - 1)) v f))) (upd2 f1 7 (upd (f1 7) (d - 2) (gsX_X4_joined_1 NF (nI K) (f1 7 (d - 2)) (f1 7 (d - 1)) v f))) (by omega) (by omega) (by omega) hw (by omega) (fun q hq => (u2n hq).trans (hF q hq)) (fun q hq => (u2n hq).trans (hF1 q hq)) ((ha.less (by omega)).set rfl)
        refine ⟨r, F, F1, ?_, ?_, a3, a4, a5⟩
        · rw [← a1]
          simp only [gsX_X4_worth_1_L16, hv, ci, o1, nI_1, e1, e2, em, c1, c2, ea, eb]
          rw [if_neg nle, if_neg n300, if_neg k2, if_pos k116, if_neg k115, if_neg x2]
        · rw [← a2, joinP hs _ _ v f v1 f1 w1 g]
          simp only [gsY_X11_misfitOf_1_L30, hv1, ci, o3, o4, nI_1, em, e3, c1, c2]
          rw [if_neg nle, if_neg (show ¬ nI 3 = (0 : Int32) by decide), if_neg (show ¬ nI 3 = (1 : Int32) by decide), if_neg (show ¬ nI 3 = (2 : Int32) by decide)]
      · rw [if_neg cd2] at hw; cases hw
end
theorem ovX {P Q : Nat} (hP : P < 2 ^ 31) (hQ : Q < 2 ^ 31) : (if (0 : Int32) < nI P - nI Q then nI P - nI Q else (0 : Int32)) = nI (P - Q) := by
  by_cases c : Q < P
  · rw [nI_subI (by omega), if_pos (show (0 : Int32) < nI (P - Q) from nI_lt (a := 0) (by omega) (by omega))]
  · have e : P - Q = 0 := by omega
    rw [e]
    by_cases d : P = Q
    · rw [d, nI_subI (Nat.le_refl _), Nat.sub_self]
      exact if_neg (by decide)
    · refine if_neg (fun z => ?_)
      have z' := (fa_lt _ _).mp z
      have z0 : (0 : Int32).toInt = 0 := by decide
      rw [z0, Int32.toInt_sub, nI_toInt hP, nI_toInt hQ, bmod_in (by omega) (by omega)] at z'
      omega
theorem ovY {P Q : Nat} (hP : P < 2 ^ 31) (hQ : Q < 2 ^ 31) {v1 : Nat → Int32} {f1 : Nat → Nat → Int32} {w1 : Int64} {g : Nat → Int64} : gsY_X11_over_1 NF (nI P) (nI Q) v1 f1 w1 g = nI (P - Q) := by
  simp only [gsY_X11_over_1]
  by_cases c : P ≤ Q
  · rw [if_pos (nI_le c hQ), show P - Q = 0 by omega]; rfl
  · rw [if_neg (nI_ge (by omega) hP), nI_subI (by omega)]
def dfI (P1 P2 P3 P4 P5 : Nat) : Nat := (P2 - P4) * 3 + (P4 - P2) + (P1 - P3) * 2 + (P3 - P1) + P5
def df9 (n : Nat) : Int32 := if n < 999 then nI n else 999
theorem df9_rng (n : Nat) (hn : n < 2 ^ 31) : 0 ≤ df9 n ∧ df9 n ≤ 999 := by
  unfold df9
  by_cases c : n < 999
  · rw [if_pos c]; exact ⟨nI_pos' hn, nI_le (b := 999) (by omega) (by decide)⟩
  · rw [if_neg c]; exact ⟨by decide, by decide⟩
theorem cN0 : (0 : Int32).toNatClampNeg = 0 := by decide
theorem cN1 : (1 : Int32).toNatClampNeg = 1 := by decide
theorem cN2 : (2 : Int32).toNatClampNeg = 2 := by decide
theorem cN3 : (3 : Int32).toNatClampNeg = 3 := by decide
theorem cN4 : (4 : Int32).toNatClampNeg = 4 := by decide
theorem cN5 : (5 : Int32).toNatClampNeg = 5 := by decide
theorem cN37 : (37 : Int32).toNatClampNeg = 37 := by decide
theorem cN42 : (42 : Int32).toNatClampNeg = 42 := by decide
theorem cN43 : (43 : Int32).toNatClampNeg = 43 := by decide
theorem cN38 : (38 : Int32).toNatClampNeg = 38 := by decide
theorem cN36 : (36 : Int32).toNatClampNeg = 36 := by decide
theorem worthX {P1 P2 P3 P4 P5 P6 : Nat} (h1 : P1 ≤ 9999) (h2 : P2 ≤ 9999) (h3 : P3 ≤ 9999) (h4 : P4 ≤ 9999) (h5 : P5 ≤ 9999) {v : Nat → Int32} {f : Nat → Nat → Int32} : ∃ G : Nat → Int32, (G 0 = nI (P2 - P4) ∧ G 1 = nI (P4 - P2) ∧ G 2 = nI (P1 - P3) ∧ G 3 = nI (P3 - P1) ∧ G 4 = nI P5 ∧ G 5 = nI P6) ∧ gsX_X4_worth_1 NF (nI P1) (nI P2) (nI P3) (nI P4) (nI P5) (nI P6) v f = (if v 18 = 0 then (df9 (dfI P1 P2 P3 P4 P5), v, upd2 f 14 G) else gsX_X4_worth_1_L16 NF (4294967296 + NF) 0 0 v (upd2 f 14 G)) := by
  generalize hG : upd (upd (upd (upd (upd (upd (f 14) 0 (nI (P2 - P4))) 1 (nI (P4 - P2))) 2 (nI (P1 - P3))) 3 (nI (P3 - P1))) 4 (nI P5)) 5 (nI P6) = G
  have g0 : G 0 = nI (P2 - P4) := by rw [← hG]; rfl
  have g1 : G 1 = nI (P4 - P2) := by rw [← hG]; rfl
  have g2 : G 2 = nI (P1 - P3) := by rw [← hG]; rfl
  have g3 : G 3 = nI (P3 - P1) := by rw [← hG]; rfl
  have g4 : G 4 = nI P5 := by rw [← hG]; rfl
  have g5 : G 5 = nI P6 := by rw [← hG]; rfl
  refine ⟨G, ⟨g0, g1, g2, g3, g4, g5⟩, ?_⟩
  simp only [gsX_X4_worth_1, cN0, cN1, cN2, cN3, cN4, cN5, ovX (show P2 < 2 ^ 31 by omega) (show P4 < 2 ^ 31 by omega), ovX (show P4 < 2 ^ 31 by omega) (show P2 < 2 ^ 31 by omega), ovX (show P1 < 2 ^ 31 by omega) (show P3 < 2 ^ 31 by omega), ovX (show P3 < 2 ^ 31 by omega) (show P1 < 2 ^ 31 by omega), upd2_2, u2s, hG, g0, g1, g2, g3]
  have e3 : nI (P2 - P4) * 3 = nI ((P2 - P4) * 3) := nI_mulI _ 3
  have e2 : nI (P1 - P3) * 2 = nI ((P1 - P3) * 2) := nI_mulI _ 2
  rw [e3, e2, nI_add, nI_add, nI_add, nI_add]
  by_cases c : v 18 = 0
  · rw [if_pos c, if_pos c]
    have q : (if nI ((P2 - P4) * 3 + (P4 - P2) + (P1 - P3) * 2 + (P3 - P1) + P5) < (999 : Int32) then nI ((P2 - P4) * 3 + (P4 - P2) + (P1 - P3) * 2 + (P3 - P1) + P5) else (999 : Int32)) = df9 (dfI P1 P2 P3 P4 P5) := by
      unfold df9 dfI
      by_cases d : (P2 - P4) * 3 + (P4 - P2) + (P1 - P3) * 2 + (P3 - P1) + P5 < 999
      · rw [if_pos d, if_pos (show nI _ < (999 : Int32) from nI_lt (b := 999) d (by decide))]
      · rw [if_neg d, if_neg (show ¬ nI _ < (999 : Int32) from nI_nlt (b := 999) (by omega) (by omega))]
    rw [q]
  · rw [if_neg c, if_neg c]
theorem misfY {P1 P2 P3 P4 P5 P6 m c : Nat} (h1 : P1 ≤ 9999) (h2 : P2 ≤ 9999) (h3 : P3 ≤ 9999) (h4 : P4 ≤ 9999) (h5 : P5 ≤ 9999) (hm : m < 6) (hc : c < 6) {v1 : Nat → Int32} {f1 : Nat → Nat → Int32} {w1 : Int64} {g : Nat → Int64} (e1 : f1 16 m = nI P1) (e2 : f1 24 m = nI P2) (e3 : f1 24 (12 + c) = nI P3) (e4 : f1 24 (18 + c) = nI P4) (e5 : f1 24 (30 + c) = nI P5) (e6 : f1 24 37 = nI P6) : ∃ G : Nat → Int32, (G 0 = nI (P2 - P4) ∧ G 1 = nI (P4 - P2) ∧ G 2 = nI (P1 - P3) ∧ G 3 = nI (P3 - P1) ∧ G 4 = nI P5 ∧ G 5 = nI P6) ∧ gsY_X11_misfitOf_1 NF (nI m) (nI c) v1 f1 w1 g = (if v1 16 = 0 then (df9 (dfI P1 P2 P3 P4 P5), v1, upd2 f1 8 G, w1, g) else gsY_X11_misfitOf_1_L30 NF v1 (4294967296 + NF) 0 0 v1 (upd2 f1 8 G) w1 g) := by
  generalize hG : upd (upd (upd (upd (upd (upd (f1 8) 0 (nI (P2 - P4))) 1 (nI (P4 - P2))) 2 (nI (P1 - P3))) 3 (nI (P3 - P1))) 4 (nI P5)) 5 (nI P6) = G
  have g0 : G 0 = nI (P2 - P4) := by rw [← hG]; rfl
  have g1 : G 1 = nI (P4 - P2) := by rw [← hG]; rfl
  have g2 : G 2 = nI (P1 - P3) := by rw [← hG]; rfl
  have g3 : G 3 = nI (P3 - P1) := by rw [← hG]; rfl
  have g4 : G 4 = nI P5 := by rw [← hG]; rfl
  have g5 : G 5 = nI P6 := by rw [← hG]; rfl
  refine ⟨G, ⟨g0, g1, g2, g3, g4, g5⟩, ?_⟩
  have a1 : (18 : Int32) + nI c = nI (18 + c) := nI_add 18 c
  have a2 : (12 : Int32) + nI c = nI (12 + c) := nI_add 12 c
  have a3 : (30 : Int32) + nI c = nI (30 + c) := nI_add 30 c
  have k0 : (nI m).toNatClampNeg = m := nI_clamp (by omega)
  have k1 : (nI (18 + c)).toNatClampNeg = 18 + c := nI_clamp (by omega)
  have k2 : (nI (12 + c)).toNatClampNeg = 12 + c := nI_clamp (by omega)
  have k3 : (nI (30 + c)).toNatClampNeg = 30 + c := nI_clamp (by omega)
  have q24 : ∀ A : Nat → Int32, upd2 f1 8 A 24 = f1 24 := fun _ => rfl
  have q16 : ∀ A : Nat → Int32, upd2 f1 8 A 16 = f1 16 := fun _ => rfl
  simp only [gsY_X11_misfitOf_1, cN0, cN1, cN2, cN3, cN4, cN5, cN37, a1, a2, a3, k0, k1, k2, k3, upd2_2, u2s, q24, q16, e1, e2, e3, e4, e5, e6, ovY (show P2 < 2 ^ 31 by omega) (show P4 < 2 ^ 31 by omega), ovY (show P4 < 2 ^ 31 by omega) (show P2 < 2 ^ 31 by omega), ovY (show P1 < 2 ^ 31 by omega) (show P3 < 2 ^ 31 by omega), ovY (show P3 < 2 ^ 31 by omega) (show P1 < 2 ^ 31 by omega), hG, g0, g1, g2, g3, g4]
  have z3 : (3 : Int32) * nI (P2 - P4) = nI (3 * (P2 - P4)) := nI_mulI 3 _
  have z2 : (2 : Int32) * nI (P1 - P3) = nI (2 * (P1 - P3)) := nI_mulI 2 _
  rw [z3, z2, nI_add, nI_add, nI_add, nI_add]
  by_cases cc : v1 16 = 0
  · rw [if_pos cc, if_pos cc]
    have es : 3 * (P2 - P4) + (P4 - P2) + 2 * (P1 - P3) + (P3 - P1) + P5 = dfI P1 P2 P3 P4 P5 := by unfold dfI; omega
    rw [es]
    have q : gsY_X11_within_1 NF (nI (dfI P1 P2 P3 P4 P5)) 999 v1 (upd2 f1 8 G) w1 g = df9 (dfI P1 P2 P3 P4 P5) := by
      have hs : dfI P1 P2 P3 P4 P5 < 100000 := by unfold dfI; omega
      generalize dfI P1 P2 P3 P4 P5 = s at hs
      simp only [gsY_X11_within_1]
      unfold df9
      rw [if_pos (nI_pos' (by omega))]
      by_cases d : s < 999
      · rw [if_pos d, if_pos (show nI s ≤ (999 : Int32) from nI_le (b := 999) (by omega) (by decide))]
      · rw [if_neg d]
        by_cases d2 : s = 999
        · rw [d2, if_pos (show nI 999 ≤ (999 : Int32) from nI_le (b := 999) (Nat.le_refl _) (by decide))]; rfl
        · rw [if_neg (show ¬ nI s ≤ (999 : Int32) from nI_ge (a := 999) (by omega) (by omega))]
    rw [q]
  · rw [if_neg cc, if_neg cc]
theorem evPair {v v1 : Nat → Int32} {f f1 : Nat → Nat → Int32} {w1 : Int64} {g : Nat → Int64} {D : Int32} {G G1 : Nat → Int32} (hS : STF v f v1 f1) (hA : agr 6 G G1) (hD : 0 ≤ D ∧ D ≤ 999) : ∃ (r : Int32) (F F1 : Nat → Nat → Int32), (if v 18 = 0 then (D, v, upd2 f 14 G) else gsX_X4_worth_1_L16 NF (4294967296 + NF) 0 0 v (upd2 f 14 G)) = (r, v, F) ∧ (if v1 16 = 0 then (D, v1, upd2 f1 8 G1, w1, g) else gsY_X11_misfitOf_1_L30 NF v1 (4294967296 + NF) 0 0 v1 (upd2 f1 8 G1) w1 g) = (r, v1, F1, w1, g) ∧ (∀ q, q ≠ 13 → q ≠ 14 → F q = f q) ∧ (∀ q, q ≠ 7 → q ≠ 8 → F1 q = f1 q) ∧ (0 ≤ r ∧ r ≤ 999) := by
  rcases hS with ⟨e1, e2⟩ | ⟨e1, out, own, e2, e3, e4, e5, ⟨e6, e7, e8⟩, e9⟩
  · rw [if_pos e1, if_pos e2]
    exact ⟨D, _, _, rfl, rfl, fun q _ h => u2n h, fun q _ h => u2n h, hD⟩
  · have hp : 0 < out.length := by
      rcases out with _ | ⟨x, l⟩
      · simp [wfS] at e6
      · simp
    rw [if_neg (show ¬ v 18 = 0 by rw [e2]; exact nI_ne0 hp (by omega)), if_neg (show ¬ v1 16 = 0 by rw [e1]; decide)]
    obtain ⟨r, F, F1, a1, a2, a3, a4, a5⟩ := evLoop (NF := NF) (w1 := w1) (g := g) (f0 := upd2 f 14 G) (f10 := upd2 f1 8 G1) e2 e3 e4 e8 e9 hA out.length 0 0 (4294967296 + NF) (4294967296 + NF) (upd2 f 14 G) (upd2 f1 8 G1) (by omega) (by omega) (by omega) e6 (by rw [List.drop_zero]; omega) (fun _ _ => rfl) (fun _ _ => rfl) (fun k hk => absurd hk (Nat.not_lt_zero _))
    exact ⟨r, F, F1, a1, a2, fun q h1 h2 => (a3 q h1).trans (u2n h2), fun q h1 h2 => (a4 q h1).trans (u2n h2), a5⟩
end
end
section
def bts (p : Nat → Bool) : Nat → Nat
  | 0 => 0
  | n + 1 => bts p n + (if p n = true then 2 ^ n else 0)
def nv (x : Int32) : Nat := x.toNatClampNeg
def cntB (p : Nat → Bool) : Nat → Nat
  | 0 => 0
  | n + 1 => cntB p n + (if p n = true then 1 else 0)
theorem cntB_le (p : Nat → Bool) : ∀ n, cntB p n ≤ n := by
  intro n
  induction n with
  | zero => exact Nat.le_refl _
  | succ n ih =>
    show cntB p n + (if p n = true then 1 else 0) ≤ n + 1
    by_cases c : p n = true
    · rw [if_pos c]; omega
    · rw [if_neg c]; omega
theorem nI_add0 (n : Nat) : nI n + 0 = nI n := nI_add n 0
theorem nv_nI {c : Nat} (h : c < 2 ^ 31) : nv (nI c) = c := nI_clamp h
theorem kx_ne {N : List Nat} {k j : Nat} (hk : N.contains k = true) (hj : N.contains j = false) : k ≠ j := fun z => by rw [z, hj] at hk; cases hk
end
section
section
variable {NF : Nat}
theorem nI_andI (a b : Nat) : nI a &&& nI b = nI (a &&& b) := by
  apply Int32.toBitVec_inj.mp
  show BitVec.ofNat 32 a &&& BitVec.ofNat 32 b = BitVec.ofNat 32 (a &&& b)
  apply BitVec.eq_of_toNat_eq
  simp [Nat.and_mod_two_pow]
theorem nI_xorI (a b : Nat) : nI a ^^^ nI b = nI (a ^^^ b) := by
  apply Int32.toBitVec_inj.mp
  show BitVec.ofNat 32 a ^^^ BitVec.ofNat 32 b = BitVec.ofNat 32 (a ^^^ b)
  apply BitVec.eq_of_toNat_eq
  simp [Nat.xor_mod_two_pow]
theorem nI_orJ (a b : Nat) : nI a ||| nI b = nI (a ||| b) := by
  apply Int32.toBitVec_inj.mp
  show BitVec.ofNat 32 a ||| BitVec.ofNat 32 b = BitVec.ofNat 32 (a ||| b)
  apply BitVec.eq_of_toNat_eq
  simp [Nat.or_mod_two_pow]
theorem shrU {T k : Nat} (hT : T < 2 ^ 32) {q : UInt32} (hq : q.toNat % 32 = k) : ((nI T).toUInt32 >>> q).toInt32 = nI (T / 2 ^ k) := by
  have h1 : (nI T).toUInt32.toNat = T := by
    show (BitVec.ofNat 32 T).toNat = T
    rw [BitVec.toNat_ofNat]
    exact Nat.mod_eq_of_lt hT
  have h2 : ((nI T).toUInt32 >>> q).toNat = T / 2 ^ k := by
    rw [UInt32.toNat_shiftRight, h1, hq, Nat.shiftRight_eq_div_pow]
  apply Int32.toBitVec_inj.mp
  apply BitVec.eq_of_toNat_eq
  show ((nI T).toUInt32 >>> q).toNat = (BitVec.ofNat 32 (T / 2 ^ k)).toNat
  rw [BitVec.toNat_ofNat, h2, Nat.mod_eq_of_lt (Nat.lt_of_le_of_lt (Nat.div_le_self _ _) hT)]
theorem bt_lt (p : Nat → Bool) : ∀ n, bts p n < 2 ^ n := by
  intro n
  induction n with
  | zero => exact Nat.one_pos
  | succ n ih =>
    show bts p n + (if p n = true then 2 ^ n else 0) < 2 ^ (n + 1)
    have e : 2 ^ (n + 1) = 2 ^ n + 2 ^ n := by rw [Nat.pow_succ]; omega
    split <;> omega
theorem bt_tb (p : Nat → Bool) : ∀ n k, (bts p n).testBit k = (decide (k < n) && p k) := by
  intro n
  induction n with
  | zero =>
    intro k
    rw [show bts p 0 = 0 from rfl, Nat.zero_testBit, decide_eq_false (by omega), Bool.false_and]
  | succ n ih =>
    intro k
    show (bts p n + (if p n = true then 2 ^ n else 0)).testBit k = _
    have lt := bt_lt p n
    by_cases hp : p n = true
    · rw [if_pos hp, Nat.add_comm]
      rcases Nat.lt_trichotomy k n with h | h | h
      · rw [Nat.testBit_two_pow_add_gt h, ih k, decide_eq_true h, decide_eq_true (show k < n + 1 by omega)]
      · subst h
        rw [Nat.testBit_two_pow_add_eq, ih k, decide_eq_false (show ¬ k < k by omega), decide_eq_true (show k < k + 1 by omega), hp]
        rfl
      · have e : 2 ^ (n + 1) = 2 ^ n + 2 ^ n := by rw [Nat.pow_succ]; omega
        have l2 : 2 ^ (n + 1) ≤ 2 ^ k := Nat.pow_le_pow_right (by decide) h
        rw [Nat.testBit_lt_two_pow (by omega), decide_eq_false (show ¬ k < n + 1 by omega), Bool.false_and]
    · rw [if_neg hp, Nat.add_zero, ih k]
      rcases Nat.lt_trichotomy k n with h | h | h
      · rw [decide_eq_true h, decide_eq_true (show k < n + 1 by omega)]
      · subst h
        rw [decide_eq_false (show ¬ k < k by omega), Bool.false_and, Bool.eq_false_iff.mpr hp, Bool.and_false]
      · rw [decide_eq_false (show ¬ k < n by omega), decide_eq_false (show ¬ k < n + 1 by omega)]
theorem bt_and (p q : Nat → Bool) (n : Nat) : nI (bts p n) &&& nI (bts q n) = nI (bts (fun k => p k && q k) n) := by
  rw [nI_andI]
  refine congrArg nI (Nat.eq_of_testBit_eq (fun i => ?_))
  rw [Nat.testBit_and, bt_tb, bt_tb, bt_tb]
  generalize decide (i < n) = d
  generalize p i = x
  generalize q i = y
  cases d <;> cases x <;> cases y <;> rfl
theorem bt_andn (p q : Nat → Bool) {n : Nat} (hn : n ≤ 32) : nI (bts p n) &&& (nI (bts q n) ^^^ (-1)) = nI (bts (fun k => p k && !q k) n) := by
  have e1 : (-1 : Int32) = nI (2 ^ 32 - 1) := by decide
  rw [e1, nI_xorI, nI_andI]
  refine congrArg nI (Nat.eq_of_testBit_eq (fun i => ?_))
  rw [Nat.testBit_and, Nat.testBit_xor, Nat.testBit_two_pow_sub_one, bt_tb, bt_tb, bt_tb]
  by_cases h : i < n
  · rw [decide_eq_true h, decide_eq_true (show i < 32 by omega)]
    generalize p i = x
    generalize q i = y
    cases x <;> cases y <;> rfl
  · rw [decide_eq_false h, Bool.false_and, Bool.false_and, Bool.false_and]
theorem sh31 : ∀ n, n < 31 → (1 : Int32) <<< (nI n &&& 31) = nI (2 ^ n) := by decide +kernel
theorem bt_or {p : Nat → Bool} {n : Nat} (hn : n < 31) (h : p n = true) : nI (bts p n) ||| ((1 : Int32) <<< (nI n &&& 31)) = nI (bts p (n + 1)) := by
  rw [sh31 n hn, nI_orJ]
  refine congrArg nI ?_
  show bts p n ||| 2 ^ n = bts p n + (if p n = true then 2 ^ n else 0)
  rw [if_pos h]
  apply Nat.eq_of_testBit_eq
  intro i
  have e : bts p n + 2 ^ n = bts p (n + 1) := by
    show _ = bts p n + (if p n = true then 2 ^ n else 0)
    rw [if_pos h]
  rw [e, Nat.testBit_or, bt_tb, bt_tb, Nat.testBit_two_pow]
  by_cases h1 : i < n
  · rw [decide_eq_true h1, decide_eq_true (show i < n + 1 by omega), decide_eq_false (show ¬ n = i by omega), Bool.or_false]
  · by_cases h2 : i = n
    · subst h2
      rw [decide_eq_false h1, decide_eq_true (show i < i + 1 by omega), decide_eq_true (show i = i from rfl), h]
      rfl
    · rw [decide_eq_false h1, decide_eq_false (show ¬ i < n + 1 by omega), decide_eq_false (show ¬ n = i by omega)]
      rfl
theorem bt_no {p : Nat → Bool} {n : Nat} (h : ¬ p n = true) : bts p n = bts p (n + 1) := by
  show _ = bts p n + (if p n = true then 2 ^ n else 0)
  rw [if_neg h, Nat.add_zero]
theorem bt_cg {p q : Nat → Bool} : ∀ n, (∀ m, m < n → p m = q m) → bts p n = bts q n := by
  intro n
  induction n with
  | zero => intro _; rfl
  | succ n ih =>
    intro h
    show bts p n + (if p n = true then 2 ^ n else 0) = bts q n + (if q n = true then 2 ^ n else 0)
    rw [ih (fun m hm => h m (by omega)), h n (by omega)]
def bcT (T : Nat) : Nat → Nat
  | 0 => 0
  | n + 1 => bcT T n + (if T.testBit n = true then 1 else 0)
def cb (b : Nat) : Nat := b - (b / 2 &&& 85)
def db (b : Nat) : Nat := (cb b &&& 51) + (cb b / 4 &&& 51)
theorem k1 : ∀ t, t < 2 → ∀ h, h < 128 → (h + 128 * t) &&& 85 = h &&& 85 := by decide +kernel
theorem k2 : ∀ t, t < 4 → ∀ h, h < 64 → (h + 64 * t) &&& 51 = h &&& 51 := by decide +kernel
theorem k3 : ∀ b, b < 256 → db b % 16 ≤ 4 ∧ db b / 16 ≤ 4 ∧ db b % 16 + db b / 16 = bcT b 8 := by decide +kernel
theorem k4 : ∀ b, b < 256 → (b / 2 &&& 85) ≤ b := by decide +kernel
theorem andL {x y m n : Nat} (hx : x < 256) (hm : m < 256) : (256 * y + x) &&& (256 * n + m) = 256 * (y &&& n) + (x &&& m) := by
  have ha : x &&& m < 256 := Nat.lt_of_le_of_lt Nat.and_le_left hx
  apply Nat.eq_of_testBit_eq
  intro j
  have e1 : (256 * y + x).testBit j = if j < 8 then x.testBit j else y.testBit (j - 8) := Nat.testBit_two_pow_mul_add y (i := 8) hx j
  have e2 : (256 * n + m).testBit j = if j < 8 then m.testBit j else n.testBit (j - 8) := Nat.testBit_two_pow_mul_add n (i := 8) hm j
  have e3 : (256 * (y &&& n) + (x &&& m)).testBit j = if j < 8 then (x &&& m).testBit j else (y &&& n).testBit (j - 8) := Nat.testBit_two_pow_mul_add (y &&& n) (i := 8) ha j
  rw [Nat.testBit_and, e1, e2, e3]
  by_cases c : j < 8
  · rw [if_pos c, if_pos c, if_pos c, Nat.testBit_and]
  · rw [if_neg c, if_neg c, if_neg c, Nat.testBit_and]
def mkM (m : Nat) : Nat → Nat
  | 0 => 0
  | n + 1 => 256 * mkM m n + m
def st1 (n T : Nat) : Nat := T - (T / 2 &&& mkM 85 n)
def st2 (n X : Nat) : Nat := (X &&& mkM 51 n) + (X / 4 &&& mkM 51 n)
def st3 (n Y : Nat) : Nat := (Y + Y / 16) &&& mkM 15 n
theorem st1_s {n x y : Nat} (hx : x < 256) : st1 (n + 1) (256 * y + x) = 256 * st1 n y + cb x := by
  have e : (256 * y + x) / 2 = 256 * (y / 2) + (x / 2 + 128 * (y % 2)) := by omega
  have a : (256 * (y / 2) + (x / 2 + 128 * (y % 2))) &&& (256 * mkM 85 n + 85) = 256 * (y / 2 &&& mkM 85 n) + (x / 2 &&& 85) := by
    rw [andL (by omega) (by decide), k1 _ (Nat.mod_lt _ (by decide)) _ (by omega)]
  have l1 : (y / 2 &&& mkM 85 n) ≤ y := Nat.le_trans Nat.and_le_left (Nat.div_le_self _ _)
  have l2 := k4 x hx
  show 256 * y + x - ((256 * y + x) / 2 &&& (256 * mkM 85 n + 85)) = 256 * (y - (y / 2 &&& mkM 85 n)) + (x - (x / 2 &&& 85))
  rw [e, a]
  generalize (y / 2 &&& mkM 85 n) = A at l1
  generalize (x / 2 &&& 85) = B at l2
  omega
theorem st2_s {n c Y : Nat} (hc : c < 256) : st2 (n + 1) (256 * Y + c) = 256 * st2 n Y + ((c &&& 51) + (c / 4 &&& 51)) := by
  have e : (256 * Y + c) / 4 = 256 * (Y / 4) + (c / 4 + 64 * (Y % 4)) := by omega
  have a : (256 * (Y / 4) + (c / 4 + 64 * (Y % 4))) &&& (256 * mkM 51 n + 51) = 256 * (Y / 4 &&& mkM 51 n) + (c / 4 &&& 51) := by
    rw [andL (by omega) (by decide), k2 _ (Nat.mod_lt _ (by decide)) _ (by omega)]
  show ((256 * Y + c) &&& (256 * mkM 51 n + 51)) + ((256 * Y + c) / 4 &&& (256 * mkM 51 n + 51)) = 256 * ((Y &&& mkM 51 n) + (Y / 4 &&& mkM 51 n)) + ((c &&& 51) + (c / 4 &&& 51))
  rw [e, a, andL hc (by decide)]
  generalize (Y &&& mkM 51 n) = A
  generalize (Y / 4 &&& mkM 51 n) = B
  generalize (c &&& 51) = C
  generalize (c / 4 &&& 51) = D
  omega
theorem st3_s {n d Y : Nat} (h1 : d % 16 ≤ 4) (h2 : d / 16 ≤ 4) (h3 : Y % 16 ≤ 4) : st3 (n + 1) (256 * Y + d) = 256 * st3 n Y + (d % 16 + d / 16) := by
  have e : (256 * Y + d) + (256 * Y + d) / 16 = 256 * (Y + Y / 16) + (d + d / 16 + 16 * (Y % 16)) := by omega
  have f : (d + d / 16 + 16 * (Y % 16)) &&& 15 = d % 16 + d / 16 := by
    rw [show (d + d / 16 + 16 * (Y % 16)) &&& 15 = (d + d / 16 + 16 * (Y % 16)) % 16 from Nat.and_two_pow_sub_one_eq_mod _ 4]
    omega
  show (256 * Y + d + (256 * Y + d) / 16) &&& (256 * mkM 15 n + 15) = 256 * ((Y + Y / 16) &&& mkM 15 n) + (d % 16 + d / 16)
  rw [e, andL (by omega) (by decide), f]
def bB (T : Nat) : Nat := T - (T / 2 &&& 1431655765)
def bC (T : Nat) : Nat := (bB T &&& 858993459) + (bB T / 4 &&& 858993459)
def bD (T : Nat) : Nat := (bC T + bC T / 16) &&& 252645135
def bcN (T : Nat) : Nat := (bD T + bD T / 256 + (bD T + bD T / 256) / 65536) &&& 63
theorem bc_add (T : Nat) : ∀ n, bcT T (8 + n) = bcT (T % 256) 8 + bcT (T / 256) n := by
  have lo : ∀ n, n ≤ 8 → bcT (T % 256) n = bcT T n := by
    intro n
    induction n with
    | zero => intro _; rfl
    | succ n ih =>
      intro h
      have e : (T % 256).testBit n = T.testBit n := by
        have q := Nat.testBit_mod_two_pow T 8 n
        rw [decide_eq_true (show n < 8 by omega), Bool.true_and] at q
        exact q
      show bcT (T % 256) n + (if (T % 256).testBit n = true then 1 else 0) = bcT T n + (if T.testBit n = true then 1 else 0)
      rw [ih (by omega), e]
  intro n
  induction n with
  | zero =>
    rw [lo 8 (Nat.le_refl _)]
    rfl
  | succ n ih =>
    have e : (T / 256).testBit n = T.testBit (8 + n) := by
      have q : (T / 256).testBit n = T.testBit (n + 8) := Nat.testBit_div_two_pow (n := 8) T n
      rw [q, Nat.add_comm]
    show bcT T (8 + n) + (if T.testBit (8 + n) = true then 1 else 0) = bcT (T % 256) 8 + (bcT (T / 256) n + (if (T / 256).testBit n = true then 1 else 0))
    rw [ih, e]
    omega
theorem sumH {e0 e1 e2 e3 : Nat} (h0 : e0 ≤ 8) (h1 : e1 ≤ 8) (h2 : e2 ≤ 8) (h3 : e3 ≤ 8) {S : Nat} (hS : S = 256 * (256 * (256 * e3 + e2) + e1) + e0) : (S + S / 256 + (S + S / 256) / 65536) % 64 = e0 + e1 + e2 + e3 := by
  have a1 : S / 256 = 256 * (256 * e3 + e2) + e1 := by omega
  have a2 : (S + (256 * (256 * e3 + e2) + e1)) / 65536 = 256 * e3 + e2 + e3 := by omega
  rw [a1, a2]
  omega
theorem bc8_le (x : Nat) (hx : x < 256) : bcT x 8 ≤ 8 := by
  obtain ⟨a, b, c⟩ := k3 x hx
  omega
theorem bcN_eq {T : Nat} (hT : T < 2 ^ 32) : bcN T = bcT T 32 := by
  have c32 : bcT T 32 = bcT (T % 256) 8 + (bcT (T / 256 % 256) 8 + (bcT (T / 256 / 256 % 256) 8 + bcT (T / 256 / 256 / 256) 8)) := by
    rw [show (32 : Nat) = 8 + 24 from rfl, bc_add T 24, show (24 : Nat) = 8 + 16 from rfl, bc_add (T / 256) 16, show (16 : Nat) = 8 + 8 from rfl, bc_add (T / 256 / 256) 8]
  rw [c32]
  have hx0 : T % 256 < 256 := Nat.mod_lt _ (by decide)
  have hx1 : T / 256 % 256 < 256 := Nat.mod_lt _ (by decide)
  have hx2 : T / 256 / 256 % 256 < 256 := Nat.mod_lt _ (by decide)
  have hx3 : T / 256 / 256 / 256 < 256 := by omega
  have eT : T = 256 * (256 * (256 * (256 * 0 + T / 256 / 256 / 256) + T / 256 / 256 % 256) + T / 256 % 256) + T % 256 := by omega
  generalize T / 256 / 256 / 256 = x3 at *
  generalize T / 256 / 256 % 256 = x2 at *
  generalize T / 256 % 256 = x1 at *
  generalize T % 256 = x0 at *
  have cl : ∀ x, x < 256 → cb x < 256 := fun x hx => Nat.lt_of_le_of_lt (Nat.sub_le _ _) hx
  obtain ⟨p0, q0, s0⟩ := k3 x0 hx0
  obtain ⟨p1, q1, s1⟩ := k3 x1 hx1
  obtain ⟨p2, q2, s2⟩ := k3 x2 hx2
  obtain ⟨p3, q3, s3⟩ := k3 x3 hx3
  have eB : bB T = 256 * (256 * (256 * (256 * 0 + cb x3) + cb x2) + cb x1) + cb x0 := by
    have m : bB T = st1 4 T := by unfold bB st1; rw [show mkM 85 4 = 1431655765 from by decide]
    rw [m, eT, st1_s hx0, st1_s hx1, st1_s hx2, st1_s hx3]
    rfl
  have eC : bC T = 256 * (256 * (256 * (256 * 0 + db x3) + db x2) + db x1) + db x0 := by
    have m : bC T = st2 4 (bB T) := by unfold bC st2; rw [show mkM 51 4 = 858993459 from by decide]
    rw [m, eB, st2_s (cl _ hx0), st2_s (cl _ hx1), st2_s (cl _ hx2), st2_s (cl _ hx3)]
    rfl
  have eD : bD T = 256 * (256 * (256 * (256 * 0 + (db x3 % 16 + db x3 / 16)) + (db x2 % 16 + db x2 / 16)) + (db x1 % 16 + db x1 / 16)) + (db x0 % 16 + db x0 / 16) := by
    have m : bD T = st3 4 (bC T) := by unfold bD st3; rw [show mkM 15 4 = 252645135 from by decide]
    have r3 : st3 1 (256 * 0 + db x3) = 256 * st3 0 0 + (db x3 % 16 + db x3 / 16) := st3_s (Y := 0) p3 q3 (by decide)
    have r2 : st3 2 (256 * (256 * 0 + db x3) + db x2) = 256 * st3 1 (256 * 0 + db x3) + (db x2 % 16 + db x2 / 16) := st3_s (Y := 256 * 0 + db x3) p2 q2 (by omega)
    have r1 : st3 3 (256 * (256 * (256 * 0 + db x3) + db x2) + db x1) = 256 * st3 2 (256 * (256 * 0 + db x3) + db x2) + (db x1 % 16 + db x1 / 16) := st3_s (Y := 256 * (256 * 0 + db x3) + db x2) p1 q1 (by omega)
    have r0 : st3 4 (256 * (256 * (256 * (256 * 0 + db x3) + db x2) + db x1) + db x0) = 256 * st3 3 (256 * (256 * (256 * 0 + db x3) + db x2) + db x1) + (db x0 % 16 + db x0 / 16) := st3_s (Y := 256 * (256 * (256 * 0 + db x3) + db x2) + db x1) p0 q0 (by omega)
    rw [m, eC, r0, r1, r2, r3]
    rfl
  rw [s0, s1, s2, s3] at eD
  have f63 : ∀ y : Nat, y &&& 63 = y % 64 := fun y => Nat.and_two_pow_sub_one_eq_mod y 6
  have fin := sumH (bc8_le x0 hx0) (bc8_le x1 hx1) (bc8_le x2 hx2) (bc8_le x3 hx3) (S := bD T) (by rw [eD]; omega)
  unfold bcN
  rw [f63, fin]
  omega
theorem bcX32 {T : Nat} (hT : T < 2 ^ 31) {v : Nat → Int32} {f : Nat → Nat → Int32} : gsX_J6_bitCount_0f7a4_1 NF (nI T) v f = nI (bcN T) := by
  have hT2 : T < 2 ^ 32 := by omega
  have s1 : ∀ {X : Nat}, X < 2 ^ 32 → ((nI X).toUInt32 >>> ((1 : Int32).toUInt32 &&& Int32.toUInt32 31)).toInt32 = nI (X / 2) := fun h => shrU (k := 1) h (by decide)
  have s2 : ∀ {X : Nat}, X < 2 ^ 32 → ((nI X).toUInt32 >>> ((2 : Int32).toUInt32 &&& Int32.toUInt32 31)).toInt32 = nI (X / 4) := fun h => shrU (k := 2) h (by decide)
  have s4 : ∀ {X : Nat}, X < 2 ^ 32 → ((nI X).toUInt32 >>> ((4 : Int32).toUInt32 &&& Int32.toUInt32 31)).toInt32 = nI (X / 16) := fun h => shrU (k := 4) h (by decide)
  have s8 : ∀ {X : Nat}, X < 2 ^ 32 → ((nI X).toUInt32 >>> ((8 : Int32).toUInt32 &&& Int32.toUInt32 31)).toInt32 = nI (X / 256) := fun h => shrU (k := 8) h (by decide)
  have s16 : ∀ {X : Nat}, X < 2 ^ 32 → ((nI X).toUInt32 >>> ((16 : Int32).toUInt32 &&& Int32.toUInt32 31)).toInt32 = nI (X / 65536) := fun h => shrU (k := 16) h (by decide)
  have a1 : ∀ X : Nat, nI X &&& 1431655765 = nI (X &&& 1431655765) := fun X => nI_andI X 1431655765
  have a2 : ∀ X : Nat, nI X &&& 858993459 = nI (X &&& 858993459) := fun X => nI_andI X 858993459
  have a3 : ∀ X : Nat, nI X &&& 252645135 = nI (X &&& 252645135) := fun X => nI_andI X 252645135
  have a4 : ∀ X : Nat, nI X &&& 63 = nI (X &&& 63) := fun X => nI_andI X 63
  have b1 : (T / 2 &&& 1431655765) ≤ T := Nat.le_trans Nat.and_le_left (Nat.div_le_self _ _)
  have e1 : nI T - nI (T / 2 &&& 1431655765) = nI (bB T) := nI_subI b1
  have b2 : bB T < 2 ^ 32 := by unfold bB; omega
  have c1 : (bB T &&& 858993459) ≤ 858993459 := Nat.and_le_right
  have c2 : (bB T / 4 &&& 858993459) ≤ 858993459 := Nat.and_le_right
  have c3 : bC T < 2 ^ 32 := by unfold bC; omega
  have d1 : bD T ≤ 252645135 := Nat.and_le_right
  have e2 : nI (bB T &&& 858993459) + nI (bB T / 4 &&& 858993459) = nI (bC T) := nI_add _ _
  have e3 : nI (bC T) + nI (bC T / 16) = nI (bC T + bC T / 16) := nI_add _ _
  have e4 : nI (bC T + bC T / 16 &&& 252645135) = nI (bD T) := rfl
  have e5 : nI (bD T) + nI (bD T / 256) = nI (bD T + bD T / 256) := nI_add _ _
  have e6 : nI (bD T + bD T / 256) + nI ((bD T + bD T / 256) / 65536) = nI (bD T + bD T / 256 + (bD T + bD T / 256) / 65536) := nI_add _ _
  simp only [gsX_J6_bitCount_0f7a4_1, s1 hT2, a1, e1, a2, s2 b2, e2, s4 c3, e3, a3, e4, s8 (show bD T < 2 ^ 32 by omega), e5, s16 (show bD T + bD T / 256 < 2 ^ 32 by omega), e6, a4]
  rfl
theorem bt_bit (p : Nat → Bool) (n k : Nat) (hk : k < n) : bts p n / 2 ^ k % 2 = if p k = true then 1 else 0 := by
  have q := bt_tb p n k
  rw [Nat.testBit_eq_decide_div_mod_eq, decide_eq_true hk, Bool.true_and] at q
  by_cases h : p k = true
  · rw [if_pos h]
    rw [h] at q
    exact of_decide_eq_true q
  · rw [if_neg h]
    rw [Bool.eq_false_iff.mpr h] at q
    have := of_decide_eq_false q
    omega
theorem bcB (p : Nat → Bool) {v : Nat → Int32} {f : Nat → Nat → Int32} : gsX_J6_bitCount_0f7a4_1 NF (nI (bts p 31)) v f = nI (cntB p 31) := by
  have lt := bt_lt p 31
  rw [bcX32 lt, bcN_eq (by omega)]
  refine congrArg nI ?_
  have e : ∀ n, n ≤ 31 → bcT (bts p 31) n = cntB p n := by
    intro n
    induction n with
    | zero => intro _; rfl
    | succ n ih =>
      intro h
      show bcT (bts p 31) n + (if (bts p 31).testBit n = true then 1 else 0) = cntB p n + (if p n = true then 1 else 0)
      rw [ih (by omega), bt_tb, decide_eq_true (show n < 31 by omega), Bool.true_and]
  show bcT (bts p 31) 31 + (if (bts p 31).testBit 31 = true then 1 else 0) = cntB p 31
  rw [e 31 (Nat.le_refl _), bt_tb, decide_eq_false (show ¬ 31 < 31 by omega), Bool.false_and]
  rfl
end
end
section
section
variable {NF : Nat} {v : Nat → Int32} {f : Nat → Nat → Int32} {v1 : Nat → Int32} {f1 : Nat → Nat → Int32} {w1 : Int64} {g : Nat → Int64}
def GW (v : Nat → Int32) (f : Nat → Nat → Int32) (v1 : Nat → Int32) (f1 : Nat → Nat → Int32) (a b t0 w0 ct cw wo : Nat) : Prop := (v 31 = nI a ∧ v1 24 = nI a ∧ 0 < a ∧ a ≤ 6) ∧ (v 32 = nI b ∧ v1 25 = nI b ∧ 0 < b ∧ b ≤ 6) ∧ (f 9 0 = nI t0 ∧ f1 16 0 = nI t0 ∧ t0 ≤ 99) ∧ (f 9 6 = nI w0 ∧ f1 17 0 = nI w0 ∧ w0 ≤ 99) ∧ (f 10 0 = nI ct ∧ f1 19 0 = nI ct ∧ ct ≤ 99) ∧ (f 10 6 = nI cw ∧ f1 20 0 = nI cw ∧ cw ≤ 99) ∧ (f 10 18 = nI wo ∧ f1 22 0 = nI wo ∧ wo ≤ 99) ∧ STF v f v1 f1 ∧ v 33 = v1 26
theorem nbx9 {x : Int32} (h : 0 ≤ x ∧ x ≤ 99) : ∃ j, j ≤ 99 ∧ x = nI j := by
  have h0 := (fa_le _ _).mp h.1
  have z0 : (0 : Int32).toInt = 0 := by decide
  have hM' : (99 : Int32).toInt = 99 := by decide
  exact nI_of2 hM' (fun z => by have z' := (fa_lt _ _).mp z; omega) h.2
theorem R3.gw (h : R3 v f v1 f1) (ha : ¬ v 31 = 0) (hb : ¬ v 32 = 0) : ∃ a b t0 w0 ct cw wo, GW v f v1 f1 a b t0 w0 ct cw wo := by
  obtain ⟨_, ⟨⟨a, b, a1, a2, a3, b1, b2, b3, sm, sc⟩, ss, sf⟩, _⟩ := h
  have a0 : 0 < a := Nat.pos_of_ne_zero (fun e => ha (by rw [a1, e]; rfl))
  have b0 : 0 < b := Nat.pos_of_ne_zero (fun e => hb (by rw [b1, e]; rfl))
  obtain ⟨m1, m2, _, mb⟩ := sm 0 a0
  obtain ⟨c1, c2, _, c4, cb⟩ := sc 0 b0
  obtain ⟨t0, h1, e1⟩ := nbx9 mb.1
  obtain ⟨w0, h2, e2⟩ := nbx9 mb.2.1
  obtain ⟨ct, h3, e3⟩ := nbx9 cb.1
  obtain ⟨cw, h4, e4⟩ := nbx9 cb.2.1
  obtain ⟨wo, h5, e5⟩ := nbx9 cb.2.2.2
  exact ⟨a, b, t0, w0, ct, cw, wo, ⟨a1, a2, a0, a3⟩, ⟨b1, b2, b0, b3⟩, ⟨e1, m1.symm.trans e1, h1⟩, ⟨e2, m2.symm.trans e2, h2⟩, ⟨e3, c1.symm.trans e3, h3⟩, ⟨e4, c2.symm.trans e4, h4⟩, ⟨e5, c4.symm.trans e5, h5⟩, sf, ss.1⟩
def gwW (w0 k d : Nat) : Nat := min 99 (w0 + k * d)
def gwO (wo d : Nat) : Nat := min 99 (wo + d)
def AG (f1 : Nat → Nat → Int32) (w0 ct cw wo k d : Nat) : Nat → Nat → Int32 := upd2 f1 24 (fun c => if c = 0 then nI (gwW w0 k d) else if c = 12 then nI ct else if c = 18 then nI cw else if c = 30 then nI (gwO wo d) else nI d)
def gzI (NF : Nat) (v1 : Nat → Int32) (f1 : Nat → Nat → Int32) (w1 : Int64) (g : Nat → Int64) (w0 ct cw wo k d : Nat) : Int32 := (gsY_X11_misfitOf_1 NF (nI 0) (nI 0) v1 (AG f1 w0 ct cw wo k d) w1 g).1
def gzB (NF : Nat) (v1 : Nat → Int32) (f1 : Nat → Nat → Int32) (w1 : Int64) (g : Nat → Int64) (w0 ct cw wo k d : Nat) : Bool := decide (¬ v1 26 < gzI NF v1 f1 w1 g w0 ct cw wo k d)
section
variable {a b t0 w0 ct cw wo : Nat}
theorem GW.pair (W : GW v f v1 f1 a b t0 w0 ct cw wo) (w1 : Int64) (g : Nat → Int64) {k d : Nat} (hd : d ≤ 20) {V : Nat → Int32} {y F : Nat → Nat → Int32} (hV : V 18 = v 18) (hy : ∀ q, q = 11 ∨ q = 12 → y q = f q) (hF : ∀ q, q = 4 ∨ q = 5 ∨ q = 16 → F q = f1 q) (r0 : F 24 0 = nI (gwW w0 k d)) (r12 : F 24 12 = nI ct) (r18 : F 24 18 = nI cw) (r30 : F 24 30 = nI (gwO wo d)) (r37 : F 24 37 = nI d) : ∃ (r : Int32) (y' F' : Nat → Nat → Int32), (∀ q, q ≠ 13 → q ≠ 14 → y' q = y q) ∧ (∀ q, q ≠ 7 → q ≠ 8 → F' q = F q) ∧ gsX_X4_worth_1 NF (nI t0) (nI (gwW w0 k d)) (nI ct) (nI cw) (nI (gwO wo d)) (nI d) V y = (r, V, y') ∧ gsY_X11_misfitOf_1 NF (nI 0) (nI 0) v1 F w1 g = (r, v1, F', w1, g) := by
  obtain ⟨_, _, ⟨_, t2, t3⟩, ⟨_, _, w3⟩, ⟨_, _, c3⟩, ⟨_, _, d3⟩, ⟨_, _, o3⟩, sf, es⟩ := W
  have gl : gwW w0 k d ≤ 99 := Nat.min_le_left _ _
  have ol : gwO wo d ≤ 99 := Nat.min_le_left _ _
  obtain ⟨P, g1, g2⟩ := worthX (NF := NF) (P1 := t0) (P2 := gwW w0 k d) (P3 := ct) (P4 := cw) (P5 := gwO wo d) (P6 := d) (by omega) (by omega) (by omega) (by omega) (by omega) (v := V) (f := y)
  obtain ⟨P1, g3, g4⟩ := misfY (NF := NF) (P1 := t0) (P2 := gwW w0 k d) (P3 := ct) (P4 := cw) (P5 := gwO wo d) (P6 := d) (m := 0) (c := 0) (by omega) (by omega) (by omega) (by omega) (by omega) (by omega) (by omega) (v1 := v1) (f1 := F) (w1 := w1) (g := g) (by rw [hF 16 (Or.inr (Or.inr rfl))]; exact t2) r0 r12 r18 r30 r37
  have sf' : STF V y v1 F := by
    unfold STF
    rw [hV, hy 11 (Or.inl rfl), hy 12 (Or.inr rfl), hF 4 (Or.inl rfl), hF 5 (Or.inr (Or.inl rfl))]
    exact sf
  have hA : agr 6 P P1 := by
    obtain ⟨p0, p1, p2, p3, p4, p5⟩ := g1
    obtain ⟨q0, q1, q2, q3, q4, q5⟩ := g3
    intro k hk
    rcases (show k = 0 ∨ k = 1 ∨ k = 2 ∨ k = 3 ∨ k = 4 ∨ k = 5 by omega) with e | e | e | e | e | e <;> subst e
    · exact p0.trans q0.symm
    · exact p1.trans q1.symm
    · exact p2.trans q2.symm
    · exact p3.trans q3.symm
    · exact p4.trans q4.symm
    · exact p5.trans q5.symm
  obtain ⟨r, A, B, e1, e2, e3, e4, e5⟩ := evPair (NF := NF) (w1 := w1) (g := g) sf' hA (df9_rng (dfI t0 (gwW w0 k d) ct cw (gwO wo d)) (by unfold dfI; omega))
  exact ⟨r, A, B, e3, e4, g2.trans e1, g4.trans e2⟩
theorem AG_r {k d : Nat} : AG f1 w0 ct cw wo k d 24 0 = nI (gwW w0 k d) ∧ AG f1 w0 ct cw wo k d 24 12 = nI ct ∧ AG f1 w0 ct cw wo k d 24 18 = nI cw ∧ AG f1 w0 ct cw wo k d 24 30 = nI (gwO wo d) ∧ AG f1 w0 ct cw wo k d 24 37 = nI d := ⟨rfl, rfl, rfl, rfl, rfl⟩
theorem GW.fX (W : GW v f v1 f1 a b t0 w0 ct cw wo) (w1 : Int64) (g : Nat → Int64) {k d : Nat} (hk : k ≤ 30) (hd : d ≤ 20) {V : Nat → Int32} {y : Nat → Nat → Int32} (hV : ∀ q, q = 18 ∨ q = 31 ∨ q = 32 ∨ q = 33 → V q = v q) (hy : ∀ q, 9 ≤ q → q ≤ 12 → y q = f q) : ∃ y' : Nat → Nat → Int32, (∀ q, q ≠ 13 → q ≠ 14 → y' q = y q) ∧ gsX_X8_fitsGrown_1 NF (nI k) (nI d) V y = ((if gzB NF v1 f1 w1 g w0 ct cw wo k d = true then 1 else 0), V, y') := by
  obtain ⟨z0, z12, z18, z30, z37⟩ := AG_r (f1 := f1) (w0 := w0) (ct := ct) (cw := cw) (wo := wo) (k := k) (d := d)
  obtain ⟨r, y', F', i1, _, i3, i4⟩ := W.pair (NF := NF) w1 g hd (V := V) (y := y) (F := AG f1 w0 ct cw wo k d) (hV 18 (Or.inl rfl)) (fun q hq => hy q (by omega) (by omega)) (fun q hq => u2n (by omega)) z0 z12 z18 z30 z37
  obtain ⟨⟨a1, _, a3, a4⟩, ⟨b1, _, b3, b4⟩, ⟨t1, _, _⟩, ⟨w2, _, w3⟩, ⟨c1, _, _⟩, ⟨d1, _, _⟩, ⟨o1, _, o3⟩, _, es⟩ := W
  have er : gzI NF v1 f1 w1 g w0 ct cw wo k d = r := by unfold gzI; rw [i4]
  have a1' : V 31 = nI a := (hV 31 (Or.inr (Or.inl rfl))).trans a1
  have b1' : V 32 = nI b := (hV 32 (Or.inr (Or.inr (Or.inl rfl)))).trans b1
  have e33 : V 33 = v1 26 := (hV 33 (Or.inr (Or.inr (Or.inr rfl)))).trans es
  have y9 : y 9 = f 9 := hy 9 (by decide) (by decide)
  have y10 : y 10 = f 10 := hy 10 (by decide) (by decide)
  have m0 : gsX_X7_manPart_1 NF 0 0 V y = nI t0 := (show gsX_X7_manPart_1 NF 0 0 V y = y 9 0 from xManP (p := 0) (m := 0) a1' a4 a3 (by decide)).trans (by rw [y9]; exact t1)
  have m1 : gsX_X7_manPart_1 NF 1 0 V y = nI w0 := (show gsX_X7_manPart_1 NF 1 0 V y = y 9 6 from xManP (p := 1) (m := 0) a1' a4 a3 (by decide)).trans (by rw [y9]; exact w2)
  have k0 : gsX_X7_coatPart_1 NF 0 0 V y = nI ct := (show gsX_X7_coatPart_1 NF 0 0 V y = y 10 0 from xCoatP (p := 0) (c := 0) b1' b4 b3 (by decide)).trans (by rw [y10]; exact c1)
  have k1 : gsX_X7_coatPart_1 NF 1 0 V y = nI cw := (show gsX_X7_coatPart_1 NF 1 0 V y = y 10 6 from xCoatP (p := 1) (c := 0) b1' b4 b3 (by decide)).trans (by rw [y10]; exact d1)
  have k3 : gsX_X7_coatPart_1 NF 3 0 V y = nI wo := (show gsX_X7_coatPart_1 NF 3 0 V y = y 10 18 from xCoatP (p := 3) (c := 0) b1' b4 b3 (by decide)).trans (by rw [y10]; exact o1)
  have kd : k * d ≤ 30 * 20 := Nat.mul_le_mul hk hd
  have mm : ∀ n : Nat, n < 100000 → (if nI n < (99 : Int32) then nI n else (99 : Int32)) = nI (min 99 n) := fun n hn => by
    by_cases c : n < 99
    · rw [if_pos (show nI n < (99 : Int32) from nI_lt (b := 99) c (by decide)), show min 99 n = n by omega]
    · rw [if_neg (show ¬ nI n < (99 : Int32) from nI_nlt (b := 99) (by omega) (by omega)), show min 99 n = 99 by omega]; rfl
  refine ⟨y', i1, ?_⟩
  simp only [gsX_X8_fitsGrown_1, m1, nI_mulI, nI_add, mm (w0 + k * d) (by omega), k3, mm (wo + d) (by omega), m0, k0, k1]
  rw [show gsX_X4_worth_1 NF (nI t0) (nI (min 99 (w0 + k * d))) (nI ct) (nI cw) (nI (min 99 (wo + d))) (nI d) V y = (r, V, y') from i3]
  simp only [e33]
  unfold gzB
  rw [er]
  by_cases z : v1 26 < r
  · rw [if_pos z, decide_eq_false (fun q => q z), if_neg (by decide)]
  · rw [if_neg z, decide_eq_true z, if_pos rfl]
theorem GW.fY (W : GW v f v1 f1 a b t0 w0 ct cw wo) (w1 : Int64) (g : Nat → Int64) {k d : Nat} (hd : d ≤ 20) {F : Nat → Nat → Int32} (hF : ∀ q, q = 4 ∨ q = 5 ∨ q = 16 → F q = f1 q) (r0 : F 24 0 = nI (gwW w0 k d)) (r12 : F 24 12 = nI ct) (r18 : F 24 18 = nI cw) (r30 : F 24 30 = nI (gwO wo d)) (r37 : F 24 37 = nI d) : ∃ F' : Nat → Nat → Int32, (∀ q, q ≠ 7 → q ≠ 8 → F' q = F q) ∧ gsY_X11_fits_1 NF 0 0 v1 F w1 g = ((if gzB NF v1 f1 w1 g w0 ct cw wo k d = true then 1 else 0), v1, F', w1, g) := by
  obtain ⟨z0, z12, z18, z30, z37⟩ := AG_r (f1 := f1) (w0 := w0) (ct := ct) (cw := cw) (wo := wo) (k := k) (d := d)
  obtain ⟨r, y', F', _, i2, i3, i4⟩ := W.pair (NF := NF) w1 g hd (V := v) (y := f) (F := F) rfl (fun _ _ => rfl) hF r0 r12 r18 r30 r37
  obtain ⟨r2, y2, F2, _, _, j3, j4⟩ := W.pair (NF := NF) w1 g hd (V := v) (y := f) (F := AG f1 w0 ct cw wo k d) rfl (fun _ _ => rfl) (fun q hq => u2n (by omega)) z0 z12 z18 z30 z37
  have e0 : r = r2 := by
    rw [i3] at j3
    exact congrArg (fun z => z.1) j3
  have er : gzI NF v1 f1 w1 g w0 ct cw wo k d = r := by unfold gzI; rw [j4, e0]
  refine ⟨F', i2, ?_⟩
  have i4 : gsY_X11_misfitOf_1 NF 0 0 v1 F w1 g = (r, v1, F', w1, g) := i4
  simp only [gsY_X11_fits_1, i4]
  rw [if_neg (show ¬ (0 : Int32) < 0 by decide)]
  unfold gzB
  rw [er]
  by_cases z : v1 26 < r
  · rw [if_pos z, decide_eq_false (fun q => q z), if_neg (by decide)]
  · rw [if_neg z, decide_eq_true z, if_pos rfl]
def CK (p : Nat → Nat → Bool) (y : Nat → Nat → Int32) : Prop := ∀ d, d < 21 → y 27 d = -1 ∨ y 27 d = nI (bts (fun k => p k d) 31)
theorem GW.behX (W : GW v f v1 f1 a b t0 w0 ct cw wo) (w1 : Int64) (g : Nat → Int64) {d : Nat} (hd : d ≤ 20) {V : Nat → Int32} {y : Nat → Nat → Int32} (hV : ∀ q, q = 18 ∨ q = 31 ∨ q = 32 ∨ q = 33 → V q = v q) (hy : ∀ q, 9 ≤ q → q ≤ 12 → y q = f q) (hc : CK (gzB NF v1 f1 w1 g w0 ct cw wo) y) : ∃ y' : Nat → Nat → Int32, (∀ q, q ≠ 13 → q ≠ 14 → q ≠ 27 → y' q = y q) ∧ CK (gzB NF v1 f1 w1 g w0 ct cw wo) y' ∧ gsX_X8_fittingBehind_1 NF (nI d) V y = (nI (bts (fun k => gzB NF v1 f1 w1 g w0 ct cw wo k d) 31), V, y') := by
  have cd : (nI d).toNatClampNeg = d := nI_clamp (by omega)
  have n0 : ¬ nI d < (0 : Int32) := nI_pos (by omega)
  have l20 : nI d ≤ (20 : Int32) := nI_le (b := 20) hd (by decide)
  have lt := bt_lt (fun k => gzB NF v1 f1 w1 g w0 ct cw wo k d) 31
  by_cases c : y 27 d = -1
  · have key : ∃ y' : Nat → Nat → Int32, (∀ q, q ≠ 13 → q ≠ 14 → q ≠ 27 → y' q = y q) ∧ CK (gzB NF v1 f1 w1 g w0 ct cw wo) y' ∧ gsX_X8_fittingBehind_1_L6 NF (nI d) (4294967296 + NF) 0 0 V y = (nI (bts (fun k => gzB NF v1 f1 w1 g w0 ct cw wo k d) 31), V, y') := by
      refine lpQ (S := Int32 × (Nat → Nat → Int32)) (fun fu i s => gsX_X8_fittingBehind_1_L6 NF (nI d) fu s.1 i V s.2) (fun r => ∃ y' : Nat → Nat → Int32, (∀ q, q ≠ 13 → q ≠ 14 → q ≠ 27 → y' q = y q) ∧ CK (gzB NF v1 f1 w1 g w0 ct cw wo) y' ∧ r = (nI (bts (fun k => gzB NF v1 f1 w1 g w0 ct cw wo k d) 31), V, y')) (fun j s => s.1 = nI (bts (fun k => gzB NF v1 f1 w1 g w0 ct cw wo k d) j) ∧ ∀ q, q ≠ 13 → q ≠ 14 → s.2 q = y q) 31 ?_ ?_ 31 0 (4294967296 + NF) (0, y) (by omega) (by omega) ⟨rfl, fun _ _ _ => rfl⟩
      · rintro fu k ⟨s, z⟩ hk ⟨h1, h2⟩
        have h1 : s = nI (bts (fun k => gzB NF v1 f1 w1 g w0 ct cw wo k d) k) := h1
        subst h1
        have h2 : ∀ q, q ≠ 13 → q ≠ 14 → z q = y q := h2
        have nl : ¬ (30 : Int32) < nI k := fun q => by have := (nI_ltI (a := 30) (b := k) (by omega) (by omega)).mp q; omega
        obtain ⟨z', i1, i2⟩ := W.fX (NF := NF) w1 g (k := k) (by omega) hd hV (y := z) (fun q q1 q2 => (h2 q (by omega) (by omega)).trans (hy q q1 q2))
        by_cases t : gzB NF v1 f1 w1 g w0 ct cw wo k d = true
        · rw [if_pos t] at i2
          refine Or.inl ⟨(nI (bts (fun k => gzB NF v1 f1 w1 g w0 ct cw wo k d) (k + 1)), z'), ⟨rfl, fun q q1 q2 => (i1 q q1 q2).trans (h2 q q1 q2)⟩, ?_⟩
          show gsX_X8_fittingBehind_1_L6 NF (nI d) (fu + 1) (nI (bts (fun k => gzB NF v1 f1 w1 g w0 ct cw wo k d) k)) (nI k) V z = gsX_X8_fittingBehind_1_L6 NF (nI d) fu (nI (bts (fun k => gzB NF v1 f1 w1 g w0 ct cw wo k d) (k + 1))) (nI (k + 1)) V z'
          conv => lhs; unfold gsX_X8_fittingBehind_1_L6
          simp only [if_neg nl, i2, ite11, if_true, bt_or (p := fun k => gzB NF v1 f1 w1 g w0 ct cw wo k d) hk t, nI_1]
        · rw [if_neg t] at i2
          refine Or.inl ⟨(nI (bts (fun k => gzB NF v1 f1 w1 g w0 ct cw wo k d) (k + 1)), z'), ⟨rfl, fun q q1 q2 => (i1 q q1 q2).trans (h2 q q1 q2)⟩, ?_⟩
          show gsX_X8_fittingBehind_1_L6 NF (nI d) (fu + 1) (nI (bts (fun k => gzB NF v1 f1 w1 g w0 ct cw wo k d) k)) (nI k) V z = gsX_X8_fittingBehind_1_L6 NF (nI d) fu (nI (bts (fun k => gzB NF v1 f1 w1 g w0 ct cw wo k d) (k + 1))) (nI (k + 1)) V z'
          rw [← bt_no (p := fun k => gzB NF v1 f1 w1 g w0 ct cw wo k d) t]
          conv => lhs; unfold gsX_X8_fittingBehind_1_L6
          simp only [if_neg nl, i2, ite01, nI_1]
      · rintro fu ⟨s, z⟩ ⟨h1, h2⟩
        have h1 : s = nI (bts (fun k => gzB NF v1 f1 w1 g w0 ct cw wo k d) 31) := h1
        subst h1
        have h2 : ∀ q, q ≠ 13 → q ≠ 14 → z q = y q := h2
        refine ⟨upd2 z 27 (upd (z 27) d (nI (bts (fun k => gzB NF v1 f1 w1 g w0 ct cw wo k d) 31))), fun q q1 q2 q3 => (u2n q3).trans (h2 q q1 q2), fun d' hd' => ?_, ?_⟩
        · rw [u2s]
          by_cases e : d' = d
          · subst e
            exact Or.inr (if_pos rfl)
          · rw [show upd (z 27) d (nI (bts (fun k => gzB NF v1 f1 w1 g w0 ct cw wo k d) 31)) d' = z 27 d' from if_neg e, h2 27 (by decide) (by decide)]
            exact hc d' hd'
        · show gsX_X8_fittingBehind_1_L6 NF (nI d) (fu + 1) (nI (bts (fun k => gzB NF v1 f1 w1 g w0 ct cw wo k d) 31)) (nI 31) V z = _
          have e27 : upd2 z 27 (upd (z 27) d (nI (bts (fun k => gzB NF v1 f1 w1 g w0 ct cw wo k d) 31))) 27 d = nI (bts (fun k => gzB NF v1 f1 w1 g w0 ct cw wo k d) 31) := by
            rw [u2s]; exact if_pos rfl
          conv => lhs; unfold gsX_X8_fittingBehind_1_L6
          simp only [if_pos (show (30 : Int32) < nI 31 by decide), cd, e27]
    obtain ⟨y', k1, k2, k3⟩ := key
    refine ⟨y', k1, k2, ?_⟩
    simp only [gsX_X8_fittingBehind_1, if_neg n0, if_pos l20, cd, c, if_true]
    exact k3
  · refine ⟨y, fun _ _ _ _ => rfl, hc, ?_⟩
    simp only [gsX_X8_fittingBehind_1, if_neg n0, if_pos l20, cd, if_neg c]
    rw [(hc d (by omega)).resolve_left c]
end
end
end
section
section
variable {NF : Nat} {v : Nat → Int32} {f : Nat → Nat → Int32} {v1 : Nat → Int32} {f1 : Nat → Nat → Int32} {w1 : Int64} {g : Nat → Int64}
def SH (f f1 : Nat → Nat → Int32) (n : Nat) (dn : Nat → Nat) (isb : Nat → Bool) (to un : Nat → Int32) : Prop := ∀ j, j < n → (f 23 j = nI (dn j) ∧ f1 30 j = nI (dn j) ∧ dn j ≤ 20) ∧ (f 24 j = (if isb j = true then 1 else 0) ∧ f1 33 j = (if isb j = true then 1 else 0)) ∧ (f 25 j = to j ∧ f1 31 j = to j) ∧ (f 26 j = un j ∧ f1 32 j = un j ∧ (un j = -1 ∨ 0 ≤ un j))
def ctd (K : Int32) (to un : Nat → Int32) (j : Nat) : Bool := decide (¬ K < to j ∧ (un j = -1 ∨ K < un j))
def okB (p : Nat → Nat → Bool) (K : Int32) (dn : Nat → Nat) (isb : Nat → Bool) (to un : Nat → Int32) (k : Nat) : Nat → Bool
  | 0 => true
  | j + 1 => okB p K dn isb to un k j && (if ctd K to un j = true then (p k (dn j) == isb j) else true)
section
variable {p : Nat → Nat → Bool} {K : Int32} {dn : Nat → Nat} {isb : Nat → Bool} {to un : Nat → Int32}
theorem okB_0 {k j : Nat} (h : ¬ ctd K to un j = true) : okB p K dn isb to un k (j + 1) = okB p K dn isb to un k j := by
  show (okB p K dn isb to un k j && (if ctd K to un j = true then (p k (dn j) == isb j) else true)) = _
  rw [if_neg h, Bool.and_true]
theorem okB_1 {k j : Nat} (h : ctd K to un j = true) (e : isb j = true) : okB p K dn isb to un k (j + 1) = (okB p K dn isb to un k j && p k (dn j)) := by
  show (okB p K dn isb to un k j && (if ctd K to un j = true then (p k (dn j) == isb j) else true)) = _
  rw [if_pos h, e]
  cases p k (dn j) <;> rfl
theorem okB_2 {k j : Nat} (h : ctd K to un j = true) (e : ¬ isb j = true) : okB p K dn isb to un k (j + 1) = (okB p K dn isb to un k j && !p k (dn j)) := by
  show (okB p K dn isb to un k j && (if ctd K to un j = true then (p k (dn j) == isb j) else true)) = _
  rw [if_pos h, Bool.eq_false_iff.mpr e]
  cases p k (dn j) <;> rfl
theorem btT : bts (fun _ => true) 31 = 2147483647 := by decide
end
section
variable {a b t0 w0 ct cw wo n : Nat} {dn : Nat → Nat} {isb : Nat → Bool} {to un : Nat → Int32}
theorem GW.atX (W : GW v f v1 f1 a b t0 w0 ct cw wo) (w1 : Int64) (g : Nat → Int64) (hn : v 41 = nI n) (n30 : n ≤ 30) (S : SH f f1 n dn isb to un) (K : Int32) (hc : CK (gzB NF v1 f1 w1 g w0 ct cw wo) f) : ∃ y' : Nat → Nat → Int32, (∀ q, q ≠ 13 → q ≠ 14 → q ≠ 27 → y' q = f q) ∧ CK (gzB NF v1 f1 w1 g w0 ct cw wo) y' ∧ gsX_X8_growthsAt_1 NF K v f = (nI (bts (fun k => okB (gzB NF v1 f1 w1 g w0 ct cw wo) K dn isb to un k n) 31), v, y') := by
  have na : ¬ v 31 = 0 := by rw [W.1.1]; exact nI_ne0 W.1.2.2.1 (by have := W.1.2.2.2; omega)
  have nb : ¬ v 32 = 0 := by rw [W.2.1.1]; exact nI_ne0 W.2.1.2.2.1 (by have := W.2.1.2.2.2; omega)
  simp only [gsX_X8_growthsAt_1, if_neg na, if_neg nb]
  refine lpQ (S := Int32 × (Nat → Nat → Int32)) (fun fu i s => gsX_X8_growthsAt_1_L3 NF K fu s.1 i v s.2) (fun r => ∃ y' : Nat → Nat → Int32, (∀ q, q ≠ 13 → q ≠ 14 → q ≠ 27 → y' q = f q) ∧ CK (gzB NF v1 f1 w1 g w0 ct cw wo) y' ∧ r = (nI (bts (fun k => okB (gzB NF v1 f1 w1 g w0 ct cw wo) K dn isb to un k n) 31), v, y')) (fun j s => s.1 = nI (bts (fun k => okB (gzB NF v1 f1 w1 g w0 ct cw wo) K dn isb to un k j) 31) ∧ (∀ q, q ≠ 13 → q ≠ 14 → q ≠ 27 → s.2 q = f q) ∧ CK (gzB NF v1 f1 w1 g w0 ct cw wo) s.2) n ?_ ?_ n 0 (4294967296 + NF) (2147483647, f) (by omega) (by omega) ⟨by rw [show (fun k => okB (gzB NF v1 f1 w1 g w0 ct cw wo) K dn isb to un k 0) = (fun _ => true) from rfl, btT]; rfl, fun _ _ _ _ => rfl, hc⟩
  · rintro fu j ⟨s, y⟩ hj ⟨h1, h2, h3⟩
    have h1 : s = nI (bts (fun k => okB (gzB NF v1 f1 w1 g w0 ct cw wo) K dn isb to un k j) 31) := h1
    subst h1
    have h2 : ∀ q, q ≠ 13 → q ≠ 14 → q ≠ 27 → y q = f q := h2
    obtain ⟨⟨d1, _, d3⟩, ⟨i1, _⟩, ⟨t1, _⟩, ⟨u1, _, u3⟩⟩ := S j hj
    have nle : ¬ nI n ≤ nI j := nI_ge hj (by omega)
    have n30' : ¬ (30 : Int32) ≤ nI j := lit_nle (b := 30) rfl (by omega) (by decide)
    have cj : (nI j).toNatClampNeg = j := nI_clamp (by omega)
    have y23 : y 23 j = nI (dn j) := by rw [h2 23 (by decide) (by decide) (by decide)]; exact d1
    have y25 : y 25 j = to j := by rw [h2 25 (by decide) (by decide) (by decide)]; exact t1
    have y26 : y 26 j = un j := by rw [h2 26 (by decide) (by decide) (by decide)]; exact u1
    obtain ⟨B, k1, k2, k3⟩ := W.behX (NF := NF) w1 g d3 (V := v) (y := y) (fun _ _ => rfl) (fun q q1 q2 => h2 q (by omega) (by omega) (by omega)) h3
    have B24 : B 24 j = (if isb j = true then 1 else 0) := by rw [k1 24 (by decide) (by decide) (by decide), h2 24 (by decide) (by decide) (by decide)]; exact i1
    have fB : ∀ q, q ≠ 13 → q ≠ 14 → q ≠ 27 → B q = f q := fun q q1 q2 q3 => (k1 q q1 q2 q3).trans (h2 q q1 q2 q3)
    have skip : ¬ ctd K to un j = true → nI (bts (fun k => okB (gzB NF v1 f1 w1 g w0 ct cw wo) K dn isb to un k j) 31) = nI (bts (fun k => okB (gzB NF v1 f1 w1 g w0 ct cw wo) K dn isb to un k (j + 1)) 31) := fun z => by
      rw [bt_cg 31 (fun k _ => (okB_0 (p := gzB NF v1 f1 w1 g w0 ct cw wo) (k := k) z).symm)]
    have goT : ctd K to un j = true → isb j = true → nI (bts (fun k => okB (gzB NF v1 f1 w1 g w0 ct cw wo) K dn isb to un k j) 31) &&& nI (bts (fun k => gzB NF v1 f1 w1 g w0 ct cw wo k (dn j)) 31) = nI (bts (fun k => okB (gzB NF v1 f1 w1 g w0 ct cw wo) K dn isb to un k (j + 1)) 31) := fun z e => by
      rw [bt_and, bt_cg 31 (fun k _ => (okB_1 (p := gzB NF v1 f1 w1 g w0 ct cw wo) (dn := dn) (k := k) z e).symm)]
    have goF : ctd K to un j = true → ¬ isb j = true → nI (bts (fun k => okB (gzB NF v1 f1 w1 g w0 ct cw wo) K dn isb to un k j) 31) &&& (nI (bts (fun k => gzB NF v1 f1 w1 g w0 ct cw wo k (dn j)) 31) ^^^ (-1)) = nI (bts (fun k => okB (gzB NF v1 f1 w1 g w0 ct cw wo) K dn isb to un k (j + 1)) 31) := fun z e => by
      rw [bt_andn _ _ (by decide), bt_cg 31 (fun k _ => (okB_2 (p := gzB NF v1 f1 w1 g w0 ct cw wo) (dn := dn) (k := k) z e).symm)]
    by_cases cu : un j = -1
    · by_cases ck : K < to j
      · have z : ¬ ctd K to un j = true := fun q => (of_decide_eq_true q).1 ck
        refine Or.inl ⟨(nI (bts (fun k => okB (gzB NF v1 f1 w1 g w0 ct cw wo) K dn isb to un k (j + 1)) 31), y), ⟨rfl, h2, h3⟩, ?_⟩
        show gsX_X8_growthsAt_1_L3 NF K (fu + 1) (nI (bts (fun k => okB (gzB NF v1 f1 w1 g w0 ct cw wo) K dn isb to un k j) 31)) (nI j) v y = gsX_X8_growthsAt_1_L3 NF K fu (nI (bts (fun k => okB (gzB NF v1 f1 w1 g w0 ct cw wo) K dn isb to un k (j + 1)) 31)) (nI (j + 1)) v y
        rw [← skip z]
        conv => lhs; unfold gsX_X8_growthsAt_1_L3
        simp only [hn, if_neg nle, if_neg n30', cj, y26, cu, if_true, y25, if_pos ck, nI_1]
      · have z : ctd K to un j = true := decide_eq_true ⟨ck, Or.inl cu⟩
        refine Or.inl ⟨(nI (bts (fun k => okB (gzB NF v1 f1 w1 g w0 ct cw wo) K dn isb to un k (j + 1)) 31), B), ⟨rfl, fB, k2⟩, ?_⟩
        show gsX_X8_growthsAt_1_L3 NF K (fu + 1) (nI (bts (fun k => okB (gzB NF v1 f1 w1 g w0 ct cw wo) K dn isb to un k j) 31)) (nI j) v y = gsX_X8_growthsAt_1_L3 NF K fu (nI (bts (fun k => okB (gzB NF v1 f1 w1 g w0 ct cw wo) K dn isb to un k (j + 1)) 31)) (nI (j + 1)) v B
        conv => lhs; unfold gsX_X8_growthsAt_1_L3
        by_cases e : isb j = true
        · rw [if_pos e] at B24
          simp only [hn, if_neg nle, if_neg n30', cj, y26, cu, if_true, y25, if_neg ck, y23, k3, B24, if_neg (show ¬ (1 : Int32) = 0 by decide), goT z e, nI_1]
        · rw [if_neg e] at B24
          simp only [hn, if_neg nle, if_neg n30', cj, y26, cu, if_true, y25, if_neg ck, y23, k3, B24, goF z e, nI_1]
    · by_cases cw' : K < un j
      · by_cases ck : K < to j
        · have z : ¬ ctd K to un j = true := fun q => (of_decide_eq_true q).1 ck
          refine Or.inl ⟨(nI (bts (fun k => okB (gzB NF v1 f1 w1 g w0 ct cw wo) K dn isb to un k (j + 1)) 31), y), ⟨rfl, h2, h3⟩, ?_⟩
          show gsX_X8_growthsAt_1_L3 NF K (fu + 1) (nI (bts (fun k => okB (gzB NF v1 f1 w1 g w0 ct cw wo) K dn isb to un k j) 31)) (nI j) v y = gsX_X8_growthsAt_1_L3 NF K fu (nI (bts (fun k => okB (gzB NF v1 f1 w1 g w0 ct cw wo) K dn isb to un k (j + 1)) 31)) (nI (j + 1)) v y
          rw [← skip z]
          conv => lhs; unfold gsX_X8_growthsAt_1_L3
          simp only [hn, if_neg nle, if_neg n30', cj, y26, if_neg cu, if_pos cw', y25, if_pos ck, nI_1]
        · have z : ctd K to un j = true := decide_eq_true ⟨ck, Or.inr cw'⟩
          refine Or.inl ⟨(nI (bts (fun k => okB (gzB NF v1 f1 w1 g w0 ct cw wo) K dn isb to un k (j + 1)) 31), B), ⟨rfl, fB, k2⟩, ?_⟩
          show gsX_X8_growthsAt_1_L3 NF K (fu + 1) (nI (bts (fun k => okB (gzB NF v1 f1 w1 g w0 ct cw wo) K dn isb to un k j) 31)) (nI j) v y = gsX_X8_growthsAt_1_L3 NF K fu (nI (bts (fun k => okB (gzB NF v1 f1 w1 g w0 ct cw wo) K dn isb to un k (j + 1)) 31)) (nI (j + 1)) v B
          conv => lhs; unfold gsX_X8_growthsAt_1_L3
          by_cases e : isb j = true
          · rw [if_pos e] at B24
            simp only [hn, if_neg nle, if_neg n30', cj, y26, if_neg cu, if_pos cw', y25, if_neg ck, y23, k3, B24, if_neg (show ¬ (1 : Int32) = 0 by decide), goT z e, nI_1]
          · rw [if_neg e] at B24
            simp only [hn, if_neg nle, if_neg n30', cj, y26, if_neg cu, if_pos cw', y25, if_neg ck, y23, k3, B24, if_true, goF z e, nI_1]
      · have z : ¬ ctd K to un j = true := fun q => (of_decide_eq_true q).2.elim cu cw'
        refine Or.inl ⟨(nI (bts (fun k => okB (gzB NF v1 f1 w1 g w0 ct cw wo) K dn isb to un k (j + 1)) 31), y), ⟨rfl, h2, h3⟩, ?_⟩
        show gsX_X8_growthsAt_1_L3 NF K (fu + 1) (nI (bts (fun k => okB (gzB NF v1 f1 w1 g w0 ct cw wo) K dn isb to un k j) 31)) (nI j) v y = gsX_X8_growthsAt_1_L3 NF K fu (nI (bts (fun k => okB (gzB NF v1 f1 w1 g w0 ct cw wo) K dn isb to un k (j + 1)) 31)) (nI (j + 1)) v y
        rw [← skip z]
        conv => lhs; unfold gsX_X8_growthsAt_1_L3
        simp only [hn, if_neg nle, if_neg n30', cj, y26, if_neg cu, if_neg cw', nI_1, ite_self]
  · rintro fu ⟨s, y⟩ ⟨h1, h2, h3⟩
    have h1 : s = nI (bts (fun k => okB (gzB NF v1 f1 w1 g w0 ct cw wo) K dn isb to un k n) 31) := h1
    subst h1
    refine ⟨y, h2, h3, ?_⟩
    show gsX_X8_growthsAt_1_L3 NF K (fu + 1) (nI (bts (fun k => okB (gzB NF v1 f1 w1 g w0 ct cw wo) K dn isb to un k n) 31)) (nI n) v y = _
    conv => lhs; unfold gsX_X8_growthsAt_1_L3
    simp only [hn, if_pos (nI_le (Nat.le_refl n) (show n < 2 ^ 31 by omega))]
theorem fgY {p : Nat → Nat → Bool} {V : Nat → Int32} {F : Nat → Nat → Int32} (hn : V 38 = nI n) (n30 : n ≤ 30) (hF : ∀ j, j < n → (F 30 j = nI (dn j) ∧ dn j ≤ 20) ∧ F 33 j = (if isb j = true then 1 else 0) ∧ F 31 j = to j ∧ F 32 j = un j ∧ (un j = -1 ∨ 0 ≤ un j)) {k : Nat} (hk : k ≤ 30) (hw : ∀ d, d ≤ 20 → F 34 (21 * k + d) = (if p k d = true then 1 else 0)) (K : Int32) : gsY_X11_fitsGrowth_1 NF (nI k) K V F w1 g = (if okB p K dn isb to un k n = true then 1 else 0) := by
  have fin : ∀ i j, okB p K dn isb to un k i = false → i ≤ j → okB p K dn isb to un k j = false := by
    intro i j h hij
    induction j with
    | zero => rw [show i = 0 by omega] at h; exact h
    | succ j ih =>
      by_cases e : i = j + 1
      · rw [← e]; exact h
      · show (okB p K dn isb to un k j && _) = false
        rw [ih (by omega), Bool.false_and]
  refine lpQ (S := Int32) (fun fu i s => gsY_X11_fitsGrowth_1_L1 NF (nI k) K V F fu s i) (fun r => r = (if okB p K dn isb to un k n = true then 1 else 0)) (fun j s => s = (if okB p K dn isb to un k j = true then 1 else 0)) n ?_ ?_ n 0 (4294967296 + NF) 1 (by omega) (by omega) rfl
  · intro fu j s hj hs
    have hs : s = (if okB p K dn isb to un k j = true then 1 else 0) := hs
    obtain ⟨⟨d1, d3⟩, i1, t1, u1, u3⟩ := hF j hj
    have nle : ¬ nI n ≤ nI j := nI_ge hj (by omega)
    have cj : (nI j).toNatClampNeg = j := nI_clamp (by omega)
    have e21 : (21 : Int32) * nI k = nI (21 * k) := nI_mulI 21 k
    have ea : nI (21 * k) + nI (dn j) = nI (21 * k + dn j) := nI_add _ _
    have ec : (nI (21 * k + dn j)).toNatClampNeg = 21 * k + dn j := nI_clamp (by omega)
    have hw' := hw (dn j) d3
    by_cases o : okB p K dn isb to un k j = true
    · rw [if_pos o] at hs
      subst hs
      have skip : ¬ ctd K to un j = true → (1 : Int32) = (if okB p K dn isb to un k (j + 1) = true then 1 else 0) := fun z => by
        rw [okB_0 z, if_pos o]
      have eqv : ctd K to un j = true → (F 34 (21 * k + dn j) = F 33 j ↔ okB p K dn isb to un k (j + 1) = true) := fun z => by
        rw [hw', i1]
        by_cases e : isb j = true
        · rw [okB_1 z e, o, if_pos e, Bool.true_and]
          by_cases q : p k (dn j) = true
          · rw [if_pos q]; exact ⟨fun _ => q, fun _ => rfl⟩
          · rw [if_neg q]; exact ⟨fun h => absurd h (by decide), fun h => absurd h q⟩
        · rw [okB_2 z e, o, if_neg e, Bool.true_and]
          by_cases q : p k (dn j) = true
          · rw [if_pos q, q]; exact ⟨fun h => absurd h (by decide), fun h => absurd h (by decide)⟩
          · rw [if_neg q, Bool.eq_false_iff.mpr q]; exact ⟨fun _ => rfl, fun _ => rfl⟩
      have n10 : ¬ (1 : Int32) = 0 := by decide
      by_cases ck : K < to j
      · have z : ¬ ctd K to un j = true := fun q => (of_decide_eq_true q).1 ck
        refine Or.inl ⟨1, skip z, ?_⟩
        show gsY_X11_fitsGrowth_1_L1 NF (nI k) K V F (fu + 1) 1 (nI j) = gsY_X11_fitsGrowth_1_L1 NF (nI k) K V F fu 1 (nI (j + 1))
        conv => lhs; unfold gsY_X11_fitsGrowth_1_L1
        simp only [hn, if_neg nle, if_neg n10, cj, t1, if_pos ck, nI_1]
      · by_cases cu : un j < 0
        · have cu' : un j = -1 := u3.resolve_right (fun q => by
            have q1 := (fa_le _ _).mp q
            have q2 := (fa_lt _ _).mp cu
            omega)
          have z : ctd K to un j = true := decide_eq_true ⟨ck, Or.inl cu'⟩
          by_cases q : F 34 (21 * k + dn j) = F 33 j
          · refine Or.inl ⟨1, by rw [if_pos ((eqv z).mp q)], ?_⟩
            show gsY_X11_fitsGrowth_1_L1 NF (nI k) K V F (fu + 1) 1 (nI j) = gsY_X11_fitsGrowth_1_L1 NF (nI k) K V F fu 1 (nI (j + 1))
            conv => lhs; unfold gsY_X11_fitsGrowth_1_L1
            simp only [hn, if_neg nle, if_neg n10, cj, t1, if_neg ck, u1, if_pos cu, e21, d1, ea, ec, if_pos q, nI_1]
          · refine Or.inl ⟨0, by rw [if_neg (fun w => q ((eqv z).mpr w))], ?_⟩
            show gsY_X11_fitsGrowth_1_L1 NF (nI k) K V F (fu + 1) 1 (nI j) = gsY_X11_fitsGrowth_1_L1 NF (nI k) K V F fu 0 (nI (j + 1))
            conv => lhs; unfold gsY_X11_fitsGrowth_1_L1
            simp only [hn, if_neg nle, if_neg n10, cj, t1, if_neg ck, u1, if_pos cu, e21, d1, ea, ec, if_neg q, nI_1]
        · have cu' : ¬ un j = -1 := fun e => cu (by rw [e]; decide)
          by_cases cw' : K < un j
          · have z : ctd K to un j = true := decide_eq_true ⟨ck, Or.inr cw'⟩
            by_cases q : F 34 (21 * k + dn j) = F 33 j
            · refine Or.inl ⟨1, by rw [if_pos ((eqv z).mp q)], ?_⟩
              show gsY_X11_fitsGrowth_1_L1 NF (nI k) K V F (fu + 1) 1 (nI j) = gsY_X11_fitsGrowth_1_L1 NF (nI k) K V F fu 1 (nI (j + 1))
              conv => lhs; unfold gsY_X11_fitsGrowth_1_L1
              simp only [hn, if_neg nle, if_neg n10, cj, t1, if_neg ck, u1, if_neg cu, if_pos cw', e21, d1, ea, ec, if_pos q, nI_1]
            · refine Or.inl ⟨0, by rw [if_neg (fun w => q ((eqv z).mpr w))], ?_⟩
              show gsY_X11_fitsGrowth_1_L1 NF (nI k) K V F (fu + 1) 1 (nI j) = gsY_X11_fitsGrowth_1_L1 NF (nI k) K V F fu 0 (nI (j + 1))
              conv => lhs; unfold gsY_X11_fitsGrowth_1_L1
              simp only [hn, if_neg nle, if_neg n10, cj, t1, if_neg ck, u1, if_neg cu, if_pos cw', e21, d1, ea, ec, if_neg q, nI_1]
          · have z : ¬ ctd K to un j = true := fun q => (of_decide_eq_true q).2.elim cu' cw'
            refine Or.inl ⟨1, skip z, ?_⟩
            show gsY_X11_fitsGrowth_1_L1 NF (nI k) K V F (fu + 1) 1 (nI j) = gsY_X11_fitsGrowth_1_L1 NF (nI k) K V F fu 1 (nI (j + 1))
            conv => lhs; unfold gsY_X11_fitsGrowth_1_L1
            simp only [hn, if_neg nle, if_neg n10, cj, t1, if_neg ck, u1, if_neg cu, if_neg cw', nI_1]
    · rw [if_neg o] at hs
      subst hs
      refine Or.inr ?_
      have of := fin j n (Bool.eq_false_iff.mpr o) (by omega)
      show gsY_X11_fitsGrowth_1_L1 NF (nI k) K V F (fu + 1) 0 (nI j) = _
      conv => lhs; unfold gsY_X11_fitsGrowth_1_L1
      simp only [hn, if_neg nle, if_true]
      rw [if_neg (by rw [of]; decide)]
  · intro fu s hs
    have hs : s = (if okB p K dn isb to un k n = true then 1 else 0) := hs
    subst hs
    show gsY_X11_fitsGrowth_1_L1 NF (nI k) K V F (fu + 1) (if okB p K dn isb to un k n = true then 1 else 0) (nI n) = _
    conv => lhs; unfold gsY_X11_fitsGrowth_1_L1
    simp only [hn, if_pos (nI_le (Nat.le_refl n) (show n < 2 ^ 31 by omega))]
end
end
end
section
section
variable {NF : Nat} {v : Nat → Int32} {f : Nat → Nat → Int32} {v1 : Nat → Int32} {f1 : Nat → Nat → Int32} {w1 : Int64} {g : Nat → Int64}
variable {a b t0 w0 ct cw wo n : Nat} {dn : Nat → Nat} {isb : Nat → Bool} {to un : Nat → Int32}
def bI (b : Bool) : Int32 := if b = true then 1 else 0
def LGo (p : Nat → Nat → Bool) (ok : Nat → Bool) (f1 : Nat → Nat → Int32) (k : Nat) (F : Nat → Nat → Int32) : Prop := (∀ q, q ≠ 7 → q ≠ 8 → q ≠ 24 → q ≠ 34 → q ≠ 35 → F q = f1 q) ∧ (∀ k' d', d' ≤ 20 → k' < k → F 34 (21 * k' + d') = bI (p k' d')) ∧ ∀ k', k' < k → F 35 k' = bI (ok k')
def LGi (p : Nat → Nat → Bool) (ok : Nat → Bool) (f1 : Nat → Nat → Int32) (w0 ct cw wo k d : Nat) (F : Nat → Nat → Int32) : Prop := LGo p ok f1 k F ∧ (∀ d', d' ≤ 20 → d' < d → F 34 (21 * k + d') = bI (p k d')) ∧ F 24 0 = nI (gwW w0 k d) ∧ F 24 12 = nI ct ∧ F 24 18 = nI cw ∧ F 24 30 = nI (gwO wo d) ∧ F 24 37 = nI d
abbrev KL10 : Type := Int32 → Int32 → (Nat → Int32) → (Nat → Nat → Int32) → Int64 → (Nat → Int64) → (Int32 × (Nat → Int32) × (Nat → Nat → Int32) × (Int64) × (Nat → Int64))
theorem lud_n {v : Nat → Int32} {j k : Nat} {x : Int32} (h : k ≠ j) : upd v j x k = v k := if_neg h
theorem lud_e {v : Nat → Int32} {j : Nat} {x : Int32} : upd v j x j = x := if_pos rfl
theorem gw_s {w0 k d : Nat} : min 99 (gwW w0 k d + k) = gwW w0 k (d + 1) := by
  unfold gwW
  rw [Nat.mul_succ]
  omega
theorem go_s {wo d : Nat} : min 99 (gwO wo d + 1) = gwO wo (d + 1) := by
  unfold gwO
  omega
theorem lsG {x y : Nat} (hx : x < 2 ^ 31) (hy : y < 2 ^ 31) {V : Nat → Int32} {F : Nat → Nat → Int32} {W : Int64} {K : Nat → Int64} : gsY_X11_lesser_1 NF (nI x) (nI y) V F W K = nI (min x y) := by
  simp only [gsY_X11_lesser_1]
  by_cases c : y ≤ x
  · rw [if_pos (nI_le c hx), show min x y = y by omega]
  · rw [if_neg (nI_ge (by omega) hy), show min x y = x by omega]
theorem GW.lay10 (W : GW v f v1 f1 a b t0 w0 ct cw wo) (w1 : Int64) (g : Nat → Int64) (hn : v1 38 = nI n) (n30 : n ≤ 30) (S : SH f f1 n dn isb to un) (K : Int32) {k cnt : Nat} (hk : k ≤ 30) (hcnt : cnt ≤ 100) (k1 : KL10) {F0 : Nat → Nat → Int32} (h0 : LGi (gzB NF v1 f1 w1 g w0 ct cw wo) (fun k => okB (gzB NF v1 f1 w1 g w0 ct cw wo) K dn isb to un k n) f1 w0 ct cw wo k 0 F0) : ∃ F' : Nat → Nat → Int32, LGo (gzB NF v1 f1 w1 g w0 ct cw wo) (fun k => okB (gzB NF v1 f1 w1 g w0 ct cw wo) K dn isb to un k n) f1 (k + 1) F' ∧ gsY_X11_layGrowths_1_L10 NF K (nI cnt) (nI k) k1 (4294967296 + NF) 0 v1 F0 w1 g = k1 (nI (cnt + (if okB (gzB NF v1 f1 w1 g w0 ct cw wo) K dn isb to un k n = true then 1 else 0))) (nI (k + 1)) v1 F' w1 g := by
  have nb1 : vp_nar .boolean (1 : Int32) = 1 := by decide
  have nb0 : vp_nar .boolean (0 : Int32) = 0 := by decide
  have ck : (nI k).toNatClampNeg = k := nI_clamp (by omega)
  have c0 : (0 : Int32).toNatClampNeg = 0 := by decide
  have c30 : (30 : Int32).toNatClampNeg = 30 := by decide
  have c37 : (37 : Int32).toNatClampNeg = 37 := by decide
  have wl := W.2.2.2.1.2.2
  have ol := W.2.2.2.2.2.2.1.2.2
  refine lpQ (S := Nat → Nat → Int32) (fun fu i s => gsY_X11_layGrowths_1_L10 NF K (nI cnt) (nI k) k1 fu i v1 s w1 g) (fun r => ∃ F' : Nat → Nat → Int32, LGo (gzB NF v1 f1 w1 g w0 ct cw wo) (fun k => okB (gzB NF v1 f1 w1 g w0 ct cw wo) K dn isb to un k n) f1 (k + 1) F' ∧ r = k1 (nI (cnt + (if okB (gzB NF v1 f1 w1 g w0 ct cw wo) K dn isb to un k n = true then 1 else 0))) (nI (k + 1)) v1 F' w1 g) (fun d s => LGi (gzB NF v1 f1 w1 g w0 ct cw wo) (fun k => okB (gzB NF v1 f1 w1 g w0 ct cw wo) K dn isb to un k n) f1 w0 ct cw wo k d s) 21 ?_ ?_ 21 0 (4294967296 + NF) F0 (by omega) (by omega) h0
  · rintro fu d s hd ⟨⟨l1, l2, l3⟩, h34, r0, r12, r18, r30, r37⟩
    have nl : ¬ (20 : Int32) < nI d := fun q => by have := (nI_ltI (a := 20) (b := d) (by omega) (by omega)).mp q; omega
    have e21 : (21 : Int32) * nI k = nI (21 * k) := nI_mulI 21 k
    have ea : nI (21 * k) + nI d = nI (21 * k + d) := nI_add _ _
    have ec : (nI (21 * k + d)).toNatClampNeg = 21 * k + d := nI_clamp (by omega)
    obtain ⟨B, i1, i2⟩ := W.fY (NF := NF) w1 g (k := k) (show d ≤ 20 by omega) (F := s) (fun q hq => l1 q (by omega) (by omega) (by omega) (by omega) (by omega)) r0 r12 r18 r30 r37
    have gl : gwW w0 k d ≤ 99 := Nat.min_le_left _ _
    have gol : gwO wo d ≤ 99 := Nat.min_le_left _ _
    have B0 : B 24 0 = nI (gwW w0 k d) := by rw [i1 24 (by decide) (by decide)]; exact r0
    have B12 : B 24 12 = nI ct := by rw [i1 24 (by decide) (by decide)]; exact r12
    have B18 : B 24 18 = nI cw := by rw [i1 24 (by decide) (by decide)]; exact r18
    have B30 : B 24 30 = nI (gwO wo d) := by rw [i1 24 (by decide) (by decide)]; exact r30
    have B37 : B 24 37 = nI d := by rw [i1 24 (by decide) (by decide)]; exact r37
    have s1 : ∀ {V : Nat → Int32} {F : Nat → Nat → Int32} {W : Int64} {G : Nat → Int64}, gsY_X11_lesser_1 NF 99 (nI (gwW w0 k d + k)) V F W G = nI (gwW w0 k (d + 1)) := by
      intro V F W G
      rw [← gw_s]
      exact lsG (x := 99) (by omega) (by omega)
    have s2 : ∀ {V : Nat → Int32} {F : Nat → Nat → Int32} {W : Int64} {G : Nat → Int64}, gsY_X11_lesser_1 NF 99 (nI (gwO wo d + 1)) V F W G = nI (gwO wo (d + 1)) := by
      intro V F W G
      rw [← go_s]
      exact lsG (x := 99) (by omega) (by omega)
    have nx : ∀ x : Int32, x = bI (gzB NF v1 f1 w1 g w0 ct cw wo k d) → ∃ F' : Nat → Nat → Int32, LGi (gzB NF v1 f1 w1 g w0 ct cw wo) (fun k => okB (gzB NF v1 f1 w1 g w0 ct cw wo) K dn isb to un k n) f1 w0 ct cw wo k (d + 1) F' ∧ F' = upd2 (upd2 (upd2 (upd2 B 34 (upd (B 34) (21 * k + d) x)) 24 (upd (upd2 B 34 (upd (B 34) (21 * k + d) x) 24) 0 (nI (gwW w0 k (d + 1))))) 24 (upd (upd2 (upd2 B 34 (upd (B 34) (21 * k + d) x)) 24 (upd (upd2 B 34 (upd (B 34) (21 * k + d) x) 24) 0 (nI (gwW w0 k (d + 1)))) 24) 30 (nI (gwO wo (d + 1))))) 24 (upd (upd2 (upd2 (upd2 B 34 (upd (B 34) (21 * k + d) x)) 24 (upd (upd2 B 34 (upd (B 34) (21 * k + d) x) 24) 0 (nI (gwW w0 k (d + 1))))) 24 (upd (upd2 (upd2 B 34 (upd (B 34) (21 * k + d) x)) 24 (upd (upd2 B 34 (upd (B 34) (21 * k + d) x) 24) 0 (nI (gwW w0 k (d + 1)))) 24) 30 (nI (gwO wo (d + 1)))) 24) 37 (nI (d + 1))) := fun x hx => by
      refine ⟨_, ⟨⟨fun q z1 z2 z3 z4 z5 => ?_, fun k' d' hd' hk' => ?_, fun k' hk' => ?_⟩, fun d' hd' hl => ?_, ?_, ?_, ?_, ?_, ?_⟩, rfl⟩
      · rw [u2n z3, u2n z3, u2n z3, u2n z4, i1 q z1 z2]; exact l1 q z1 z2 z3 z4 z5
      · rw [u2n (by decide), u2n (by decide), u2n (by decide), u2s, lud_n (by omega), i1 34 (by decide) (by decide)]; exact l2 k' d' hd' hk'
      · rw [u2n (by decide), u2n (by decide), u2n (by decide), u2n (by decide), i1 35 (by decide) (by decide)]; exact l3 k' hk'
      · rw [u2n (by decide), u2n (by decide), u2n (by decide), u2s]
        by_cases e : d' = d
        · subst e; rw [lud_e]; exact hx
        · rw [lud_n (by omega), i1 34 (by decide) (by decide)]; exact h34 d' hd' (by omega)
      · rw [u2s, lud_n (by decide), u2s, lud_n (by decide), u2s, lud_e]
      · rw [u2s, lud_n (by decide), u2s, lud_n (by decide), u2s, lud_n (by decide), u2n (by decide)]; exact B12
      · rw [u2s, lud_n (by decide), u2s, lud_n (by decide), u2s, lud_n (by decide), u2n (by decide)]; exact B18
      · rw [u2s, lud_n (by decide), u2s, lud_e]
      · rw [u2s, lud_e]
    have q0 : ∀ x : Int32, upd2 B 34 (upd (B 34) (21 * k + d) x) 24 0 = nI (gwW w0 k d) := fun x => (congrFun (u2n (by decide)) 0).trans B0
    have q30 : ∀ x z : Int32, upd2 (upd2 B 34 (upd (B 34) (21 * k + d) x)) 24 (upd (upd2 B 34 (upd (B 34) (21 * k + d) x) 24) 0 z) 24 30 = nI (gwO wo d) := fun x z => by
      rw [u2s, lud_n (by decide), u2n (by decide)]; exact B30
    have q37 : ∀ x z z' : Int32, upd2 (upd2 (upd2 B 34 (upd (B 34) (21 * k + d) x)) 24 (upd (upd2 B 34 (upd (B 34) (21 * k + d) x) 24) 0 z)) 24 (upd (upd2 (upd2 B 34 (upd (B 34) (21 * k + d) x)) 24 (upd (upd2 B 34 (upd (B 34) (21 * k + d) x) 24) 0 z) 24) 30 z') 24 37 = nI d := fun x z z' => by
      rw [u2s, lud_n (by decide), u2s, lud_n (by decide), u2n (by decide)]; exact B37
    by_cases t : gzB NF v1 f1 w1 g w0 ct cw wo k d = true
    · rw [if_pos t] at i2
      obtain ⟨F', j1, j2⟩ := nx 1 (by unfold bI; rw [if_pos t])
      refine Or.inl ⟨F', j1, ?_⟩
      show gsY_X11_layGrowths_1_L10 NF K (nI cnt) (nI k) k1 (fu + 1) (nI d) v1 s w1 g = gsY_X11_layGrowths_1_L10 NF K (nI cnt) (nI k) k1 fu (nI (d + 1)) v1 F' w1 g
      rw [j2]
      conv => lhs; unfold gsY_X11_layGrowths_1_L10
      simp only [if_neg nl, i2, if_true, e21, ea, ec, nb1, c0, q0, nI_add, s1, c30, q30, nI_1, s2, c37, q37]
    · rw [if_neg t] at i2
      obtain ⟨F', j1, j2⟩ := nx 0 (by unfold bI; rw [if_neg t])
      refine Or.inl ⟨F', j1, ?_⟩
      show gsY_X11_layGrowths_1_L10 NF K (nI cnt) (nI k) k1 (fu + 1) (nI d) v1 s w1 g = gsY_X11_layGrowths_1_L10 NF K (nI cnt) (nI k) k1 fu (nI (d + 1)) v1 F' w1 g
      rw [j2]
      conv => lhs; unfold gsY_X11_layGrowths_1_L10
      simp only [if_neg nl, i2, ite01, e21, ea, ec, nb0, c0, q0, nI_add, s1, c30, q30, nI_1, s2, c37, q37]
  · rintro fu s ⟨⟨l1, l2, l3⟩, h34, _⟩
    have fg := fgY (NF := NF) (w1 := w1) (g := g) (p := gzB NF v1 f1 w1 g w0 ct cw wo) (V := v1) (F := s) (dn := dn) (isb := isb) (to := to) (un := un) hn n30 (fun j hj => by
      obtain ⟨⟨_, d2, d3⟩, ⟨_, i2⟩, ⟨_, t2⟩, ⟨_, u2, u3⟩⟩ := S j hj
      rw [l1 30 (by decide) (by decide) (by decide) (by decide) (by decide), l1 33 (by decide) (by decide) (by decide) (by decide) (by decide), l1 31 (by decide) (by decide) (by decide) (by decide) (by decide), l1 32 (by decide) (by decide) (by decide) (by decide) (by decide)]
      exact ⟨⟨d2, d3⟩, i2, t2, u2, u3⟩) hk (fun d hd => h34 d hd (by omega)) K
    have t1 : ∀ F : Nat → Nat → Int32, gsY_X11_truth_1 NF 1 v1 F w1 g = 1 := fun _ => rfl
    have t0' : ∀ F : Nat → Nat → Int32, gsY_X11_truth_1 NF 0 v1 F w1 g = 0 := fun _ => rfl
    have e35 : ∀ x : Int32, upd2 s 35 (upd (s 35) k x) 35 k = x := fun x => by rw [u2s, lud_e]
    have lgo : ∀ x : Int32, x = bI (okB (gzB NF v1 f1 w1 g w0 ct cw wo) K dn isb to un k n) → LGo (gzB NF v1 f1 w1 g w0 ct cw wo) (fun k => okB (gzB NF v1 f1 w1 g w0 ct cw wo) K dn isb to un k n) f1 (k + 1) (upd2 s 35 (upd (s 35) k x)) := fun x hx => by
      refine ⟨fun q z1 z2 z3 z4 z5 => (u2n z5).trans (l1 q z1 z2 z3 z4 z5), fun k' d' hd' hk' => ?_, fun k' hk' => ?_⟩
      · rw [u2n (by decide)]
        by_cases e : k' = k
        · subst e; exact h34 d' hd' (by omega)
        · exact l2 k' d' hd' (by omega)
      · rw [u2s]
        by_cases e : k' = k
        · subst e; rw [lud_e]; exact hx
        · rw [lud_n e]; exact l3 k' (by omega)
    by_cases o : okB (gzB NF v1 f1 w1 g w0 ct cw wo) K dn isb to un k n = true
    · rw [if_pos o] at fg
      refine ⟨upd2 s 35 (upd (s 35) k 1), lgo 1 (by unfold bI; rw [if_pos o]), ?_⟩
      show gsY_X11_layGrowths_1_L10 NF K (nI cnt) (nI k) k1 (fu + 1) (nI 21) v1 s w1 g = _
      rw [if_pos o]
      conv => lhs; unfold gsY_X11_layGrowths_1_L10
      simp only [if_pos (show (20 : Int32) < nI 21 by decide), fg, if_true, ck, nb1, e35, t1, nI_1]
    · rw [if_neg o] at fg
      refine ⟨upd2 s 35 (upd (s 35) k 0), lgo 0 (by unfold bI; rw [if_neg o]), ?_⟩
      show gsY_X11_layGrowths_1_L10 NF K (nI cnt) (nI k) k1 (fu + 1) (nI 21) v1 s w1 g = _
      rw [if_neg o]
      conv => lhs; unfold gsY_X11_layGrowths_1_L10
      simp only [if_pos (show (20 : Int32) < nI 21 by decide), fg, ite01, ck, nb0, e35, t0', nI_1, nI_add0, Nat.add_zero]
theorem GW.layY (W : GW v f v1 f1 a b t0 w0 ct cw wo) (w1 : Int64) (g : Nat → Int64) (hn : v1 38 = nI n) (n30 : n ≤ 30) (S : SH f f1 n dn isb to un) (K : Int32) : ∃ F' : Nat → Nat → Int32, LGo (gzB NF v1 f1 w1 g w0 ct cw wo) (fun k => okB (gzB NF v1 f1 w1 g w0 ct cw wo) K dn isb to un k n) f1 31 F' ∧ gsY_X11_layGrowths_1 NF K v1 f1 w1 g = (nI (cntB (fun k => okB (gzB NF v1 f1 w1 g w0 ct cw wo) K dn isb to un k n) 31), v1, F', w1, g) := by
  have a2 := W.1.2.1
  have a0 := W.1.2.2.1
  have a6 := W.1.2.2.2
  have b2 := W.2.1.2.1
  have b0 := W.2.1.2.2.1
  have b6 := W.2.1.2.2.2
  refine lpQ (S := Int32 × (Nat → Nat → Int32)) (fun fu i s => gsY_X11_layGrowths_1_L1 NF K v1 fu s.1 i v1 s.2 w1 g) (fun r => ∃ F' : Nat → Nat → Int32, LGo (gzB NF v1 f1 w1 g w0 ct cw wo) (fun k => okB (gzB NF v1 f1 w1 g w0 ct cw wo) K dn isb to un k n) f1 31 F' ∧ r = (nI (cntB (fun k => okB (gzB NF v1 f1 w1 g w0 ct cw wo) K dn isb to un k n) 31), v1, F', w1, g)) (fun k s => s.1 = nI (cntB (fun k => okB (gzB NF v1 f1 w1 g w0 ct cw wo) K dn isb to un k n) k) ∧ LGo (gzB NF v1 f1 w1 g w0 ct cw wo) (fun k => okB (gzB NF v1 f1 w1 g w0 ct cw wo) K dn isb to un k n) f1 k s.2) 31 ?_ ?_ 31 0 (4294967296 + NF) (0, f1) (by omega) (by omega) ⟨rfl, fun _ _ _ _ _ _ => rfl, fun _ _ _ h => absurd h (Nat.not_lt_zero _), fun _ h => absurd h (Nat.not_lt_zero _)⟩
  · rintro fu k ⟨l, s⟩ hk ⟨h1, l1, l2, l3⟩
    have h1 : l = nI (cntB (fun k => okB (gzB NF v1 f1 w1 g w0 ct cw wo) K dn isb to un k n) k) := h1
    subst h1
    have l1 : ∀ q, q ≠ 7 → q ≠ 8 → q ≠ 24 → q ≠ 34 → q ≠ 35 → s q = f1 q := l1
    have cl := cntB_le (fun k => okB (gzB NF v1 f1 w1 g w0 ct cw wo) K dn isb to un k n) k
    have nl : ¬ (30 : Int32) < nI k := fun q => by have := (nI_ltI (a := 30) (b := k) (by omega) (by omega)).mp q; omega
    have na : ¬ nI a ≤ (0 : Int32) := nI_ge (a := 0) a0 (by omega)
    have nb : ¬ nI b ≤ (0 : Int32) := nI_ge (a := 0) b0 (by omega)
    obtain ⟨B, i1, i2, i3, _, i5, i6⟩ := yBegin (NF := NF) (V := v1) (F0 := s) (W := w1) (G := g) a2 b2 a6 b6
    have fr : ∀ q, q ≠ 24 → B q = s q := i1
    have hW := W
    obtain ⟨_, _, _, ⟨_, w17, W0le⟩, ⟨_, c19, _⟩, ⟨_, c20, _⟩, ⟨_, c22, O0le⟩, _, _⟩ := hW
    have gi : LGi (gzB NF v1 f1 w1 g w0 ct cw wo) (fun k => okB (gzB NF v1 f1 w1 g w0 ct cw wo) K dn isb to un k n) f1 w0 ct cw wo k 0 B := by
      refine ⟨⟨fun q z1 z2 z3 z4 z5 => (fr q z3).trans (l1 q z1 z2 z3 z4 z5), fun k' d' hd' hk' => ?_, fun k' hk' => ?_⟩, fun d' _ h => absurd h (Nat.not_lt_zero _), ?_, ?_, ?_, ?_, ?_⟩
      · rw [fr 34 (by decide)]; exact l2 k' d' hd' hk'
      · rw [fr 35 (by decide)]; exact l3 k' hk'
      · rw [(i2 0 a0).1, l1 17 (by decide) (by decide) (by decide) (by decide) (by decide), w17]
        unfold gwW
        rw [Nat.mul_zero, show min 99 (w0 + 0) = w0 by omega]
      · rw [(i3 0 b0).1, l1 19 (by decide) (by decide) (by decide) (by decide) (by decide)]; exact c19
      · rw [(i3 0 b0).2.1, l1 20 (by decide) (by decide) (by decide) (by decide) (by decide)]; exact c20
      · rw [(i3 0 b0).2.2.2, l1 22 (by decide) (by decide) (by decide) (by decide) (by decide), c22]
        unfold gwO
        rw [show min 99 (wo + 0) = wo by omega]
      · rw [i5]; rfl
    obtain ⟨F', j1, j2⟩ := W.lay10 (NF := NF) w1 g hn n30 S K (k := k) (cnt := cntB (fun k => okB (gzB NF v1 f1 w1 g w0 ct cw wo) K dn isb to un k n) k) (by omega) (by omega) (fun z0 z1 z2 z3 z4 z5 => gsY_X11_layGrowths_1_L1 NF K v1 fu z0 z1 z2 z3 z4 z5) gi
    refine Or.inl ⟨(nI (cntB (fun k => okB (gzB NF v1 f1 w1 g w0 ct cw wo) K dn isb to un k n) (k + 1)), F'), ⟨rfl, j1⟩, ?_⟩
    show gsY_X11_layGrowths_1_L1 NF K v1 (fu + 1) (nI (cntB (fun k => okB (gzB NF v1 f1 w1 g w0 ct cw wo) K dn isb to un k n) k)) (nI k) v1 s w1 g = gsY_X11_layGrowths_1_L1 NF K v1 fu (nI (cntB (fun k => okB (gzB NF v1 f1 w1 g w0 ct cw wo) K dn isb to un k n) (k + 1))) (nI (k + 1)) v1 F' w1 g
    conv => lhs; unfold gsY_X11_layGrowths_1_L1
    simp only [a2, b2, if_neg nl, if_neg na, if_neg nb, i6]
    exact j2
  · rintro fu ⟨l, s⟩ ⟨h1, h2⟩
    have h1 : l = nI (cntB (fun k => okB (gzB NF v1 f1 w1 g w0 ct cw wo) K dn isb to un k n) 31) := h1
    subst h1
    refine ⟨s, h2, ?_⟩
    show gsY_X11_layGrowths_1_L1 NF K v1 (fu + 1) (nI (cntB (fun k => okB (gzB NF v1 f1 w1 g w0 ct cw wo) K dn isb to un k n) 31)) (nI 31) v1 s w1 g = _
    conv => lhs; unfold gsY_X11_layGrowths_1_L1
    rw [if_pos (show (30 : Int32) < nI 31 by decide)]
end
end
section
section
variable {NF : Nat} {v : Nat → Int32} {f : Nat → Nat → Int32} {v1 : Nat → Int32} {f1 : Nat → Nat → Int32} {w1 : Int64} {g : Nat → Int64} {r r' : Int32} {u : (Nat → Int32) × (Nat → Nat → Int32)} {u' : (Nat → Int32) × (Nat → Nat → Int32) × Int64 × (Nat → Int64)}
def gbX (NF : Nat) (v : Nat → Int32) (f : Nat → Nat → Int32) (k d : Nat) : Bool := decide ((gsX_X8_fitsGrown_1 NF (nI k) (nI d) v f).1 = 1)
def CCK (NF : Nat) (v : Nat → Int32) (f : Nat → Nat → Int32) : Prop := ∀ d, d < 21 → f 27 d = -1 ∨ f 27 d = nI (bts (fun k => gbX NF v f k d) 31)
def SGR (v : Nat → Int32) (f : Nat → Nat → Int32) : Prop := ∀ k, k ≤ 30 → v 41 = nI k → ∀ j, j < k → (∃ d, d ≤ 20 ∧ f 23 j = nI d) ∧ (f 24 j = 0 ∨ f 24 j = 1)
def R4 (NF : Nat) (v : Nat → Int32) (f : Nat → Nat → Int32) (v1 : Nat → Int32) (f1 : Nat → Nat → Int32) : Prop := R3 v f v1 f1 ∧ SGR v f ∧ (¬ v 31 = 0 → ¬ v 32 = 0 → CCK NF v f)
section
variable {a b t0 w0 ct cw wo : Nat}
theorem GW.gb (W : GW v f v1 f1 a b t0 w0 ct cw wo) (w1 : Int64) (g : Nat → Int64) {k d : Nat} (hk : k ≤ 30) (hd : d ≤ 20) {V : Nat → Int32} {y : Nat → Nat → Int32} (hV : ∀ q, q = 18 ∨ q = 31 ∨ q = 32 ∨ q = 33 → V q = v q) (hy : ∀ q, 9 ≤ q → q ≤ 12 → y q = f q) : gbX NF V y k d = gzB NF v1 f1 w1 g w0 ct cw wo k d := by
  obtain ⟨y', _, i2⟩ := W.fX (NF := NF) w1 g hk hd hV hy
  unfold gbX
  rw [i2]
  by_cases t : gzB NF v1 f1 w1 g w0 ct cw wo k d = true
  · rw [if_pos t, t]; exact decide_eq_true rfl
  · rw [if_neg t, Bool.eq_false_iff.mpr t]; exact decide_eq_false (show ¬ (0 : Int32) = 1 by decide)
theorem GW.ck (W : GW v f v1 f1 a b t0 w0 ct cw wo) (w1 : Int64) (g : Nat → Int64) {V : Nat → Int32} {y : Nat → Nat → Int32} (hV : ∀ q, q = 18 ∨ q = 31 ∨ q = 32 ∨ q = 33 → V q = v q) (hy : ∀ q, 9 ≤ q → q ≤ 12 → y q = f q) : CK (gzB NF v1 f1 w1 g w0 ct cw wo) y ↔ CCK NF V y := by
  have e : ∀ d, d < 21 → bts (fun k => gzB NF v1 f1 w1 g w0 ct cw wo k d) 31 = bts (fun k => gbX NF V y k d) 31 := fun d hd => bt_cg 31 (fun k hk => (W.gb (NF := NF) w1 g (show k ≤ 30 by omega) (show d ≤ 20 by omega) hV hy).symm)
  constructor
  · intro h d hd; rw [← e d hd]; exact h d hd
  · intro h d hd; rw [e d hd]; exact h d hd
end
theorem R4.kp {V : Nat → Int32} {y : Nat → Nat → Int32} {V1 : Nat → Int32} {F1 : Nat → Nat → Int32} (h : R4 NF v f v1 f1) (q : R3 V y V1 F1) (a : ∀ k, ([18, 31, 32, 33, 41] : List Nat).contains k = true → V k = v k) (b : ∀ k, ([9, 10, 11, 12, 23, 24, 27] : List Nat).contains k = true → y k = f k) : R4 NF V y V1 F1 := by
  refine ⟨q, fun k hk e j hj => ?_, fun h1 h2 => ?_⟩
  · rw [b 23 rfl, b 24 rfl]
    exact h.2.1 k hk ((a 41 rfl).symm.trans e) j hj
  · rw [a 31 rfl] at h1
    rw [a 32 rfl] at h2
    obtain ⟨A, B, t0, w0, ct, cw, wo, W⟩ := h.1.gw h1 h2
    have c := h.2.2 h1 h2
    have c1 := (W.ck (NF := NF) 0 (fun _ => 0) (V := v) (y := f) (fun _ _ => rfl) (fun _ _ _ => rfl)).mpr c
    refine (W.ck (NF := NF) 0 (fun _ => 0) (V := V) (y := y) (fun q hq => ?_) (fun q q1 q2 => ?_)).mp ?_
    · rcases hq with e | e | e | e <;> subst e
      · exact a 18 rfl
      · exact a 31 rfl
      · exact a 32 rfl
      · exact a 33 rfl
    · rcases (show q = 9 ∨ q = 10 ∨ q = 11 ∨ q = 12 by omega) with e | e | e | e <;> subst e
      · exact b 9 rfl
      · exact b 10 rfl
      · exact b 11 rfl
      · exact b 12 rfl
    · intro d hd
      rw [b 27 rfl]
      exact c1 d hd
theorem R4.of3 (h : R4 NF v f v1 f1) (q : r = r' ∧ R3 u.1 u.2 u'.1 u'.2.1) (a : ∀ k, ([18, 31, 32, 33, 41] : List Nat).contains k = true → u.1 k = v k) (b : ∀ k, ([9, 10, 11, 12, 23, 24, 27] : List Nat).contains k = true → u.2 k = f k) : r = r' ∧ R4 NF u.1 u.2 u'.1 u'.2.1 := ⟨q.1, h.kp q.2 a b⟩
abbrev XBF : List Nat := [9, 10, 11, 12, 0, 23, 24, 25, 26, 27]
theorem R4.keep {V : Nat → Int32} {y : Nat → Nat → Int32} {V1 : Nat → Int32} {F1 : Nat → Nat → Int32} (h : R4 NF v f v1 f1) (a : ∀ k, XAI.contains k = true → V k = v k) (b : ∀ k, XBF.contains k = true → y k = f k) (c : ∀ k, YAI.contains k = true → V1 k = v1 k) (d : ∀ k, YAF.contains k = true → F1 k = f1 k) : R4 NF V y V1 F1 :=
  h.kp (h.1.keep a (fun k hk => b k (kx_in (by decide) hk)) c d) (fun k hk => a k (kx_in (by decide) hk)) (fun k hk => b k (kx_in (by decide) hk))
theorem R4.reg (h : R4 NF v f v1 f1) (e : gsX_X10_regiment_1 NF v f = (r, u)) (z0 : (u.1 1).toInt = 0) (t0 : u.1 0 = v 0) (a : (gsX_X6_read_1 NF v f).1 = 1 ∨ ((∀ k, (XSI ++ XGI).contains k = true → u.1 k = v k) ∧ ∀ k, (XSF ++ XGF ++ [27]).contains k = true → u.2 k = f k)) (e' : gsY_X11_regiment_1 NF v1 f1 w1 g = (r', u')) (z1 : (u'.1 0).toInt = 0) (t1 : u'.1 39 = v1 39) (b : (gsY_X11_readAll_1 NF v1 f1 w1 g).1 1 ≤ 0 ∨ ((∀ k, (YSI ++ YGI).contains k = true → u'.1 k = v1 k) ∧ ∀ k, (YSF ++ YGF).contains k = true → u'.2.1 k = f1 k)) : r = r' ∧ R4 NF u.1 u.2 u'.1 u'.2.1 := by
  have R := h.1.reg e z0 t0 (a.imp id (fun q => ⟨q.1, fun k hk => q.2 k (kx_in (by decide) hk)⟩)) e' z1 t1 b
  refine ⟨R.1, ?_⟩
  have hh := h
  obtain ⟨⟨⟨⟨c, n, t⟩, _, _⟩, _, _⟩, _⟩ := h
  rcases readPair (NF := NF) (w1 := w1) (g := g) t with ⟨v', f', v1', f1', w1', g', i', A, B, t', e1, e2, lr⟩ | ⟨v', f', v1', f1', w1', g', e1, e2, lf⟩
  · obtain ⟨l0, ⟨p7, p8, p2⟩, ⟨a1, a2, a3⟩, ⟨b1, b2, b3⟩, _⟩ := lr
    obtain ⟨U, F, x1, ⟨_, _, _, _, _, _, _, _, _, _, _, _, _, _, _, _, x41⟩, _, _, _, _, _, _, _, _, x27⟩ := xReg (NF := NF) e1 a1 b1 a3 b3
    rw [x1] at e
    cases e
    refine ⟨R.2, fun k hk q j hj => ?_, fun _ _ d hd => Or.inl (x27 d hd)⟩
    have q : U 41 = nI k := q
    rw [x41] at q
    have : k = 0 := ((nI_eq (a := 0) (b := k) (by omega) (by omega)).mp q).symm
    omega
  · rw [e1] at a
    obtain ⟨a1, a2⟩ := a.resolve_left (show ¬ (0 : Int32) = 1 by decide)
    exact hh.kp R.2 (fun k hk => a1 k (kx_in (by decide) hk)) (fun k hk => a2 k (kx_in (by decide) hk))
theorem narB (x : Int32) : vp_nar .boolean x = 0 ∨ vp_nar .boolean x = 1 := by
  have ex : x = nI x.toBitVec.toNat := by
    apply Int32.toBitVec_inj.mp
    apply BitVec.eq_of_toNat_eq
    show x.toBitVec.toNat = (BitVec.ofNat 32 x.toBitVec.toNat).toNat
    rw [BitVec.toNat_ofNat, Nat.mod_eq_of_lt x.toBitVec.isLt]
  obtain ⟨T, hT⟩ : ∃ T, x = nI T := ⟨_, ex⟩
  clear ex
  subst hT
  have e : vp_nar .boolean (nI T) = nI (T &&& 1) := nI_andI T 1
  rw [e, Nat.and_one_is_mod]
  rcases (show T % 2 = 0 ∨ T % 2 = 1 by omega) with z | z
  · rw [z]; exact Or.inl rfl
  · rw [z]; exact Or.inr rfl
theorem R4.seen {p1 p2 : Int32} (h : R4 NF v f v1 f1) (e : gsX_X10_seen_1 NF p1 p2 v f = (r, u)) (e' : gsY_X11_seen_1 NF p1 p2 v1 f1 w1 g = (r', u')) : r = r' ∧ R4 NF u.1 u.2 u'.1 u'.2.1 := by
  have R := h.1.seen e e'
  refine ⟨R.1, ?_⟩
  obtain ⟨_, K, k0, k1, _, _⟩ := h.1.2.2
  have same : u = (v, f) → R4 NF u.1 u.2 u'.1 u'.2.1 := fun q => by
    have R2 := R.2
    rw [q] at R2 ⊢
    exact h.kp R2 (fun _ _ => rfl) (fun _ _ => rfl)
  by_cases c1 : v 31 = 0
  · simp only [gsX_X10_seen_1, if_pos c1] at e
    cases e; exact same rfl
  · by_cases c2 : v 32 = 0
    · simp only [gsX_X10_seen_1, if_neg c1, if_pos c2] at e
      cases e; exact same rfl
    · by_cases c3 : p1 < 0
      · simp only [gsX_X10_seen_1, gsX_X8_tell_1, if_neg c1, if_neg c2, if_pos c3] at e
        cases e; exact same rfl
      · by_cases c4 : 20 < p1
        · simp only [gsX_X10_seen_1, gsX_X8_tell_1, if_neg c1, if_neg c2, if_neg c3, if_pos c4] at e
          cases e; exact same rfl
        · by_cases c5 : K < 30
          · have x5 : nI K < (30 : Int32) := nI_lt (b := 30) c5 (by decide)
            have R2 := R.2
            simp only [gsX_X10_seen_1, gsX_X8_tell_1, if_neg c1, if_neg c2, if_neg c3, if_neg c4, k1, if_pos x5, nI_clamp (show K < 2 ^ 31 by omega), nI_1] at e
            cases e
            obtain ⟨P, hP, eP⟩ := nI_of c3
            have P20 : P ≤ 20 := by
              rw [eP] at c4
              exact Nat.le_of_not_lt (fun z => c4 (nI_lt (a := 20) z hP))
            refine ⟨R2, fun k hk q j hj => ?_, fun h1 h2 => ?_⟩
            · have q : upd v 41 (nI (K + 1)) 41 = nI k := q
              rw [pk_us] at q
              have ek : K + 1 = k := (nI_eq (by omega) (by omega)).mp q
              show (∃ d, d ≤ 20 ∧ upd (f 23) K p1 j = nI d) ∧ (upd (f 24) K (vp_nar .boolean p2) j = 0 ∨ upd (f 24) K (vp_nar .boolean p2) j = 1)
              by_cases ej : j = K
              · rw [ej, pk_us, pk_us]
                refine ⟨⟨P, P20, eP⟩, ?_⟩
                exact narB p2
              · rw [pk_un ej, pk_un ej]
                exact h.2.1 K k0 k1 j (by omega)
            · obtain ⟨A, B, t0, w0, ct, cw, wo, W⟩ := h.1.gw c1 c2
              have cc := (W.ck (NF := NF) 0 (fun _ => 0) (V := v) (y := f) (fun _ _ => rfl) (fun _ _ _ => rfl)).mpr (h.2.2 c1 c2)
              refine (W.ck (NF := NF) 0 (fun _ => 0) (V := upd v 41 (nI (K + 1))) (fun q hq => pk_un (by omega)) (fun q q1 q2 => ?_)).mp (fun d hd => ?_)
              · exact (u2n (by omega)).trans ((u2n (by omega)).trans ((u2n (by omega)).trans (u2n (by omega))))
              · rw [u2n (by decide), u2n (by decide), u2n (by decide), u2n (by decide)]; exact cc d hd
          · have x5 : ¬ nI K < (30 : Int32) := nI_nlt (b := 30) (by omega) (by omega)
            simp only [gsX_X10_seen_1, gsX_X8_tell_1, if_neg c1, if_neg c2, if_neg c3, if_neg c4, k1, if_neg x5] at e
            cases e; exact same rfl
theorem R4.sh (h : R4 NF v f v1 f1) : ∃ (n : Nat) (dn : Nat → Nat) (isb : Nat → Bool) (to un : Nat → Int32), n ≤ 30 ∧ v 41 = nI n ∧ v1 38 = nI n ∧ SH f f1 n dn isb to un := by
  obtain ⟨_, K, k0, k1, k2, k3⟩ := h.1.2.2
  refine ⟨K, fun j => nv (f 23 j), fun j => decide (f 24 j = 1), fun j => f 25 j, fun j => f 26 j, k0, k1, k2, fun j hj => ?_⟩
  obtain ⟨q1, q2, q3, q4, q5⟩ := k3 j hj
  obtain ⟨⟨d, hd, ed⟩, hb⟩ := h.2.1 K k0 k1 j hj
  have nd : nv (f 23 j) = d := by rw [ed]; exact nv_nI (by omega)
  have eb : f 24 j = (if decide (f 24 j = 1) = true then 1 else 0) := by
    rcases hb with z | z
    · rw [z]; rfl
    · rw [z]; rfl
  refine ⟨⟨?_, ?_, ?_⟩, ⟨eb, q2.symm.trans eb⟩, ⟨rfl, q3.symm⟩, rfl, q4.symm, q5⟩
  · show f 23 j = nI (nv (f 23 j))
    rw [nd]; exact ed
  · show f1 30 j = nI (nv (f 23 j))
    rw [nd, ← q1]; exact ed
  · show nv (f 23 j) ≤ 20
    rw [nd]; exact hd
theorem R3.nob (h : R3 v f v1 f1) (c : v 31 = 0 ∨ v 32 = 0) (K : Int32) (w1 : Int64) (g : Nat → Int64) : gsX_X8_growthsAt_1 NF K v f = (0, v, f) ∧ gsY_X11_layGrowths_1 NF K v1 f1 w1 g = (0, v1, f1, w1, g) := by
  obtain ⟨_, ⟨⟨a, b, a1, a2, a3, b1, b2, b3, _, _⟩, _, _⟩, _⟩ := h
  have y0 : gsY_X11_layGrowths_1 NF K v1 f1 w1 g = gsY_X11_layGrowths_1_L1 NF K v1 (4294967296 + NF) 0 0 v1 f1 w1 g := rfl
  obtain ⟨fu, hfu⟩ : ∃ fu, 4294967296 + NF = fu + 1 := ⟨4294967295 + NF, by omega⟩
  rw [y0, hfu]
  conv => rhs; lhs; unfold gsY_X11_layGrowths_1_L1
  rw [if_neg (show ¬ (30 : Int32) < 0 by decide)]
  by_cases c1 : v 31 = 0
  · have z : v1 24 ≤ 0 := by rw [a2, ← a1, c1]; exact Int32.le_refl _
    rw [if_pos z]
    refine ⟨?_, rfl⟩
    simp only [gsX_X8_growthsAt_1, if_pos c1]
  · have c2 := c.resolve_left c1
    have z : v1 25 ≤ 0 := by rw [b2, ← b1, c2]; exact Int32.le_refl _
    refine ⟨?_, ?_⟩
    · simp only [gsX_X8_growthsAt_1, if_neg c1, if_pos c2]
    · by_cases z1 : v1 24 ≤ 0
      · rw [if_pos z1]
      · rw [if_neg z1, if_pos z]
theorem R4.growths {p : Int32} (h : R4 NF v f v1 f1) (e : gsX_X10_growths_1 NF p v f = (r, u)) (e' : gsY_X11_growths_1 NF p v1 f1 w1 g = (r', u')) : r = r' ∧ R4 NF u.1 u.2 u'.1 u'.2.1 := by
  by_cases c : v 31 = 0 ∨ v 32 = 0
  · obtain ⟨x1, y1⟩ := h.1.nob (NF := NF) c p w1 g
    have b0 : gsX_J6_bitCount_0f7a4_1 NF 0 v f = 0 := (bcX32 (NF := NF) (T := 0) (by decide) (v := v) (f := f)).trans (by decide)
    simp only [gsX_X10_growths_1, x1, b0] at e
    simp only [gsY_X11_growths_1, y1] at e'
    cases e; cases e'
    exact ⟨rfl, h⟩
  · have c1 : ¬ v 31 = 0 := fun z => c (Or.inl z)
    have c2 : ¬ v 32 = 0 := fun z => c (Or.inr z)
    obtain ⟨a, b, t0, w0, ct, cw, wo, W⟩ := h.1.gw c1 c2
    obtain ⟨n, dn, isb, to, un, n30, n1, n2, S⟩ := h.sh
    have ck := (W.ck (NF := NF) w1 g (V := v) (y := f) (fun _ _ => rfl) (fun _ _ _ => rfl)).mpr (h.2.2 c1 c2)
    obtain ⟨y', i1, i2, i3⟩ := W.atX (NF := NF) w1 g n1 n30 S p ck
    obtain ⟨F', ⟨j1, _, _⟩, j4⟩ := W.layY (NF := NF) w1 g n2 n30 S p
    simp only [gsX_X10_growths_1, i3, bcB] at e
    simp only [gsY_X11_growths_1, j4] at e'
    cases e; cases e'
    refine ⟨rfl, h.1.keep (fun _ _ => rfl) (fun k hk => i1 k (kx_ne hk rfl) (kx_ne hk rfl) (kx_ne hk rfl)) (fun _ _ => rfl) (fun k hk => j1 k (kx_ne hk rfl) (kx_ne hk rfl) (kx_ne hk rfl) (kx_ne hk rfl) (kx_ne hk rfl)), fun k hk q j hj => ?_, fun _ _ => ?_⟩
    · show (∃ d, d ≤ 20 ∧ y' 23 j = nI d) ∧ (y' 24 j = 0 ∨ y' 24 j = 1)
      rw [i1 23 (by decide) (by decide) (by decide), i1 24 (by decide) (by decide) (by decide)]
      exact h.2.1 k hk q j hj
    · exact (W.ck (NF := NF) w1 g (V := v) (y := y') (fun _ _ => rfl) (fun q q1 q2 => i1 q (by omega) (by omega) (by omega))).mp i2
end
end
section
section
variable {NF : Nat} {v : Nat → Int32} {f : Nat → Nat → Int32}
theorem ntz2 : ∀ k, k < 31 → gsX_J6_numberOfTrailingZeros_0f7a4_1 0 (nI (2 ^ k)) (fun _ => 0) (fun _ _ => 0) = nI k := by decide +kernel
theorem lowM {T k q : Nat} (hk : k < 31) (e : T = 2 ^ (k + 1) * q + 2 ^ k) (hT : T < 2 ^ 31) : (nI T ^^^ (-1)) &&& (nI T - 1) = nI (2 ^ k - 1) := by
  have e1 : (-1 : Int32) = nI (2 ^ 32 - 1) := by decide
  have p0 : 0 < 2 ^ k := Nat.two_pow_pos k
  have s1 : nI T - 1 = nI (T - 1) := nI_subI (a := T) (b := 1) (by omega)
  rw [e1, s1, nI_xorI, nI_andI]
  refine congrArg nI (Nat.eq_of_testBit_eq (fun i => ?_))
  have e2 : T - 1 = 2 ^ (k + 1) * q + (2 ^ k - 1) := by omega
  have pk : 2 ^ (k + 1) = 2 ^ k + 2 ^ k := by rw [Nat.pow_succ]; omega
  rw [Nat.testBit_and, Nat.testBit_xor, Nat.testBit_two_pow_sub_one, Nat.testBit_two_pow_sub_one, e2, Nat.testBit_two_pow_mul_add _ (by omega), e, Nat.testBit_two_pow_mul_add _ (by omega)]
  by_cases h : i < k + 1
  · rw [if_pos h, if_pos h, Nat.testBit_two_pow_sub_one, Nat.testBit_two_pow, decide_eq_true (show i < 32 by omega)]
    by_cases h2 : i < k
    · rw [decide_eq_true h2, decide_eq_false (show ¬ k = i by omega)]; rfl
    · rw [decide_eq_false h2, Bool.and_false]
  · rw [if_neg h, if_neg h, decide_eq_false (show ¬ i < k by omega)]
    by_cases h3 : i < 32
    · rw [decide_eq_true h3]
      cases q.testBit (i - (k + 1)) <;> rfl
    · have lt : q.testBit (i - (k + 1)) = false := by
        apply Nat.testBit_lt_two_pow
        have h4 : 2 ^ (k + 1) * q < 2 ^ (k + 1) * 2 ^ (i - (k + 1)) := by
          rw [← Nat.pow_add, show k + 1 + (i - (k + 1)) = i by omega]
          have h5 : 2 ^ 31 ≤ 2 ^ i := Nat.pow_le_pow_right (by decide) (by omega)
          omega
        exact Nat.lt_of_mul_lt_mul_left h4
      rw [lt, Bool.and_false]
theorem ntzX {p : Nat → Bool} {k : Nat} (hk : k < 31) (h1 : p k = true) (h0 : ∀ j, j < k → ¬ p j = true) : gsX_J6_numberOfTrailingZeros_0f7a4_1 NF (nI (bts p 31)) v f = nI k := by
  have lt := bt_lt p 31
  have lo : bts p 31 % 2 ^ k = 0 := by
    apply Nat.eq_of_testBit_eq
    intro i
    rw [Nat.testBit_mod_two_pow, bt_tb, Nat.zero_testBit]
    by_cases hi : i < k
    · rw [Bool.eq_false_iff.mpr (h0 i hi), Bool.and_false, Bool.and_false]
    · rw [decide_eq_false hi, Bool.false_and]
  have b1 : bts p 31 / 2 ^ k % 2 = 1 := by rw [bt_bit p 31 k hk, if_pos h1]
  have pk : 2 ^ (k + 1) = 2 ^ k * 2 := Nat.pow_succ 2 k
  have e : bts p 31 = 2 ^ (k + 1) * (bts p 31 / 2 ^ k / 2) + 2 ^ k := by
    have q1 := Nat.div_add_mod (bts p 31) (2 ^ k)
    have q2 := Nat.div_add_mod (bts p 31 / 2 ^ k) 2
    rw [lo, Nat.add_zero] at q1
    rw [b1] at q2
    rw [pk, Nat.mul_assoc]
    have q3 : 2 ^ k * (2 * (bts p 31 / 2 ^ k / 2) + 1) = 2 ^ k * (bts p 31 / 2 ^ k) := by rw [q2]
    rw [Nat.mul_add, Nat.mul_one] at q3
    rw [q3]; exact q1.symm
  have m1 := lowM hk e lt
  have m2 := lowM (T := 2 ^ k) (q := 0) hk (by rw [Nat.mul_zero, Nat.zero_add]) (Nat.pow_lt_pow_right (by decide) hk)
  rw [← ntz2 k hk]
  simp only [gsX_J6_numberOfTrailingZeros_0f7a4_1, m1, m2]
theorem nlzX {T : Nat} (h0 : 0 < T) (hT : T < 2 ^ 31) : ∃ k, k < 31 ∧ 2 ^ k ≤ T ∧ T < 2 ^ (k + 1) ∧ (31 : Int32) - gsX_J6_numberOfLeadingZeros_0f7a4_1 NF (nI T) v f = nI k := by
  have hT2 : T < 2 ^ 32 := by omega
  have z0 : (0 : Int32) < nI T := nI_lt (a := 0) h0 (by omega)
  have s1 : ∀ {X : Nat}, X < 2 ^ 32 → ((nI X).toUInt32 >>> ((1 : Int32).toUInt32 &&& Int32.toUInt32 31)).toInt32 = nI (X / 2) := fun h => shrU (k := 1) h (by decide)
  have s2 : ∀ {X : Nat}, X < 2 ^ 32 → ((nI X).toUInt32 >>> ((2 : Int32).toUInt32 &&& Int32.toUInt32 31)).toInt32 = nI (X / 4) := fun h => shrU (k := 2) h (by decide)
  have s4 : ∀ {X : Nat}, X < 2 ^ 32 → ((nI X).toUInt32 >>> ((4 : Int32).toUInt32 &&& Int32.toUInt32 31)).toInt32 = nI (X / 16) := fun h => shrU (k := 4) h (by decide)
  have s8 : ∀ {X : Nat}, X < 2 ^ 32 → ((nI X).toUInt32 >>> ((8 : Int32).toUInt32 &&& Int32.toUInt32 31)).toInt32 = nI (X / 256) := fun h => shrU (k := 8) h (by decide)
  have s16 : ∀ {X : Nat}, X < 2 ^ 32 → ((nI X).toUInt32 >>> ((16 : Int32).toUInt32 &&& Int32.toUInt32 31)).toInt32 = nI (X / 65536) := fun h => shrU (k := 16) h (by decide)
  by_cases c0 : T < 65536
  · have d0 : nI (T) < (65536 : Int32) := nI_lt (b := 65536) c0 (by decide)
    by_cases c1 : T < 256
    · have d1 : nI (T) < (256 : Int32) := nI_lt (b := 256) c1 (by decide)
      by_cases c2 : T < 16
      · have d2 : nI (T) < (16 : Int32) := nI_lt (b := 16) c2 (by decide)
        by_cases c3 : T < 4
        · have d3 : nI (T) < (4 : Int32) := nI_lt (b := 4) c3 (by decide)
          have hq : T / 2 = 0 ∨ T / 2 = 1 := by omega
          rcases hq with q | q
          · refine ⟨0, by decide, show 1 ≤ T by omega, show T < 2 by omega, ?_⟩
            simp only [gsX_J6_numberOfLeadingZeros_0f7a4_1, if_pos z0, if_pos d0, if_pos d1, if_pos d2, if_pos d3, s1 (show T < 2 ^ 32 by omega), q]
            decide
          · refine ⟨1, by decide, show 2 ≤ T by omega, show T < 4 by omega, ?_⟩
            simp only [gsX_J6_numberOfLeadingZeros_0f7a4_1, if_pos z0, if_pos d0, if_pos d1, if_pos d2, if_pos d3, s1 (show T < 2 ^ 32 by omega), q]
            decide
        · have d3 : ¬ nI (T) < (4 : Int32) := nI_nlt (b := 4) (by omega) (by omega)
          have hq : T / 4 / 2 = 0 ∨ T / 4 / 2 = 1 := by omega
          rcases hq with q | q
          · refine ⟨2, by decide, show 4 ≤ T by omega, show T < 8 by omega, ?_⟩
            simp only [gsX_J6_numberOfLeadingZeros_0f7a4_1, if_pos z0, if_pos d0, if_pos d1, if_pos d2, if_neg d3, s2 (show T < 2 ^ 32 by omega), s1 (show T / 4 < 2 ^ 32 by omega), q]
            decide
          · refine ⟨3, by decide, show 8 ≤ T by omega, show T < 16 by omega, ?_⟩
            simp only [gsX_J6_numberOfLeadingZeros_0f7a4_1, if_pos z0, if_pos d0, if_pos d1, if_pos d2, if_neg d3, s2 (show T < 2 ^ 32 by omega), s1 (show T / 4 < 2 ^ 32 by omega), q]
            decide
      · have d2 : ¬ nI (T) < (16 : Int32) := nI_nlt (b := 16) (by omega) (by omega)
        by_cases c3 : T / 16 < 4
        · have d3 : nI (T / 16) < (4 : Int32) := nI_lt (b := 4) c3 (by decide)
          have hq : T / 16 / 2 = 0 ∨ T / 16 / 2 = 1 := by omega
          rcases hq with q | q
          · refine ⟨4, by decide, show 16 ≤ T by omega, show T < 32 by omega, ?_⟩
            simp only [gsX_J6_numberOfLeadingZeros_0f7a4_1, if_pos z0, if_pos d0, if_pos d1, if_neg d2, s4 (show T < 2 ^ 32 by omega), if_pos d3, s1 (show T / 16 < 2 ^ 32 by omega), q]
            decide
          · refine ⟨5, by decide, show 32 ≤ T by omega, show T < 64 by omega, ?_⟩
            simp only [gsX_J6_numberOfLeadingZeros_0f7a4_1, if_pos z0, if_pos d0, if_pos d1, if_neg d2, s4 (show T < 2 ^ 32 by omega), if_pos d3, s1 (show T / 16 < 2 ^ 32 by omega), q]
            decide
        · have d3 : ¬ nI (T / 16) < (4 : Int32) := nI_nlt (b := 4) (by omega) (by omega)
          have hq : T / 16 / 4 / 2 = 0 ∨ T / 16 / 4 / 2 = 1 := by omega
          rcases hq with q | q
          · refine ⟨6, by decide, show 64 ≤ T by omega, show T < 128 by omega, ?_⟩
            simp only [gsX_J6_numberOfLeadingZeros_0f7a4_1, if_pos z0, if_pos d0, if_pos d1, if_neg d2, s4 (show T < 2 ^ 32 by omega), if_neg d3, s2 (show T / 16 < 2 ^ 32 by omega), s1 (show T / 16 / 4 < 2 ^ 32 by omega), q]
            decide
          · refine ⟨7, by decide, show 128 ≤ T by omega, show T < 256 by omega, ?_⟩
            simp only [gsX_J6_numberOfLeadingZeros_0f7a4_1, if_pos z0, if_pos d0, if_pos d1, if_neg d2, s4 (show T < 2 ^ 32 by omega), if_neg d3, s2 (show T / 16 < 2 ^ 32 by omega), s1 (show T / 16 / 4 < 2 ^ 32 by omega), q]
            decide
    · have d1 : ¬ nI (T) < (256 : Int32) := nI_nlt (b := 256) (by omega) (by omega)
      by_cases c2 : T / 256 < 16
      · have d2 : nI (T / 256) < (16 : Int32) := nI_lt (b := 16) c2 (by decide)
        by_cases c3 : T / 256 < 4
        · have d3 : nI (T / 256) < (4 : Int32) := nI_lt (b := 4) c3 (by decide)
          have hq : T / 256 / 2 = 0 ∨ T / 256 / 2 = 1 := by omega
          rcases hq with q | q
          · refine ⟨8, by decide, show 256 ≤ T by omega, show T < 512 by omega, ?_⟩
            simp only [gsX_J6_numberOfLeadingZeros_0f7a4_1, if_pos z0, if_pos d0, if_neg d1, s8 (show T < 2 ^ 32 by omega), if_pos d2, if_pos d3, s1 (show T / 256 < 2 ^ 32 by omega), q]
            decide
          · refine ⟨9, by decide, show 512 ≤ T by omega, show T < 1024 by omega, ?_⟩
            simp only [gsX_J6_numberOfLeadingZeros_0f7a4_1, if_pos z0, if_pos d0, if_neg d1, s8 (show T < 2 ^ 32 by omega), if_pos d2, if_pos d3, s1 (show T / 256 < 2 ^ 32 by omega), q]
            decide
        · have d3 : ¬ nI (T / 256) < (4 : Int32) := nI_nlt (b := 4) (by omega) (by omega)
          have hq : T / 256 / 4 / 2 = 0 ∨ T / 256 / 4 / 2 = 1 := by omega
          rcases hq with q | q
          · refine ⟨10, by decide, show 1024 ≤ T by omega, show T < 2048 by omega, ?_⟩
            simp only [gsX_J6_numberOfLeadingZeros_0f7a4_1, if_pos z0, if_pos d0, if_neg d1, s8 (show T < 2 ^ 32 by omega), if_pos d2, if_neg d3, s2 (show T / 256 < 2 ^ 32 by omega), s1 (show T / 256 / 4 < 2 ^ 32 by omega), q]
            decide
          · refine ⟨11, by decide, show 2048 ≤ T by omega, show T < 4096 by omega, ?_⟩
            simp only [gsX_J6_numberOfLeadingZeros_0f7a4_1, if_pos z0, if_pos d0, if_neg d1, s8 (show T < 2 ^ 32 by omega), if_pos d2, if_neg d3, s2 (show T / 256 < 2 ^ 32 by omega), s1 (show T / 256 / 4 < 2 ^ 32 by omega), q]
            decide
      · have d2 : ¬ nI (T / 256) < (16 : Int32) := nI_nlt (b := 16) (by omega) (by omega)
        by_cases c3 : T / 256 / 16 < 4
        · have d3 : nI (T / 256 / 16) < (4 : Int32) := nI_lt (b := 4) c3 (by decide)
          have hq : T / 256 / 16 / 2 = 0 ∨ T / 256 / 16 / 2 = 1 := by omega
          rcases hq with q | q
          · refine ⟨12, by decide, show 4096 ≤ T by omega, show T < 8192 by omega, ?_⟩
            simp only [gsX_J6_numberOfLeadingZeros_0f7a4_1, if_pos z0, if_pos d0, if_neg d1, s8 (show T < 2 ^ 32 by omega), if_neg d2, s4 (show T / 256 < 2 ^ 32 by omega), if_pos d3, s1 (show T / 256 / 16 < 2 ^ 32 by omega), q]
            decide
          · refine ⟨13, by decide, show 8192 ≤ T by omega, show T < 16384 by omega, ?_⟩
            simp only [gsX_J6_numberOfLeadingZeros_0f7a4_1, if_pos z0, if_pos d0, if_neg d1, s8 (show T < 2 ^ 32 by omega), if_neg d2, s4 (show T / 256 < 2 ^ 32 by omega), if_pos d3, s1 (show T / 256 / 16 < 2 ^ 32 by omega), q]
            decide
        · have d3 : ¬ nI (T / 256 / 16) < (4 : Int32) := nI_nlt (b := 4) (by omega) (by omega)
          have hq : T / 256 / 16 / 4 / 2 = 0 ∨ T / 256 / 16 / 4 / 2 = 1 := by omega
          rcases hq with q | q
          · refine ⟨14, by decide, show 16384 ≤ T by omega, show T < 32768 by omega, ?_⟩
            simp only [gsX_J6_numberOfLeadingZeros_0f7a4_1, if_pos z0, if_pos d0, if_neg d1, s8 (show T < 2 ^ 32 by omega), if_neg d2, s4 (show T / 256 < 2 ^ 32 by omega), if_neg d3, s2 (show T / 256 / 16 < 2 ^ 32 by omega), s1 (show T / 256 / 16 / 4 < 2 ^ 32 by omega), q]
            decide
          · refine ⟨15, by decide, show 32768 ≤ T by omega, show T < 65536 by omega, ?_⟩
            simp only [gsX_J6_numberOfLeadingZeros_0f7a4_1, if_pos z0, if_pos d0, if_neg d1, s8 (show T < 2 ^ 32 by omega), if_neg d2, s4 (show T / 256 < 2 ^ 32 by omega), if_neg d3, s2 (show T / 256 / 16 < 2 ^ 32 by omega), s1 (show T / 256 / 16 / 4 < 2 ^ 32 by omega), q]
            decide
  · have d0 : ¬ nI (T) < (65536 : Int32) := nI_nlt (b := 65536) (by omega) (by omega)
    by_cases c1 : T / 65536 < 256
    · have d1 : nI (T / 65536) < (256 : Int32) := nI_lt (b := 256) c1 (by decide)
      by_cases c2 : T / 65536 < 16
      · have d2 : nI (T / 65536) < (16 : Int32) := nI_lt (b := 16) c2 (by decide)
        by_cases c3 : T / 65536 < 4
        · have d3 : nI (T / 65536) < (4 : Int32) := nI_lt (b := 4) c3 (by decide)
          have hq : T / 65536 / 2 = 0 ∨ T / 65536 / 2 = 1 := by omega
          rcases hq with q | q
          · refine ⟨16, by decide, show 65536 ≤ T by omega, show T < 131072 by omega, ?_⟩
            simp only [gsX_J6_numberOfLeadingZeros_0f7a4_1, if_pos z0, if_neg d0, s16 (show T < 2 ^ 32 by omega), if_pos d1, if_pos d2, if_pos d3, s1 (show T / 65536 < 2 ^ 32 by omega), q]
            decide
          · refine ⟨17, by decide, show 131072 ≤ T by omega, show T < 262144 by omega, ?_⟩
            simp only [gsX_J6_numberOfLeadingZeros_0f7a4_1, if_pos z0, if_neg d0, s16 (show T < 2 ^ 32 by omega), if_pos d1, if_pos d2, if_pos d3, s1 (show T / 65536 < 2 ^ 32 by omega), q]
            decide
        · have d3 : ¬ nI (T / 65536) < (4 : Int32) := nI_nlt (b := 4) (by omega) (by omega)
          have hq : T / 65536 / 4 / 2 = 0 ∨ T / 65536 / 4 / 2 = 1 := by omega
          rcases hq with q | q
          · refine ⟨18, by decide, show 262144 ≤ T by omega, show T < 524288 by omega, ?_⟩
            simp only [gsX_J6_numberOfLeadingZeros_0f7a4_1, if_pos z0, if_neg d0, s16 (show T < 2 ^ 32 by omega), if_pos d1, if_pos d2, if_neg d3, s2 (show T / 65536 < 2 ^ 32 by omega), s1 (show T / 65536 / 4 < 2 ^ 32 by omega), q]
            decide
          · refine ⟨19, by decide, show 524288 ≤ T by omega, show T < 1048576 by omega, ?_⟩
            simp only [gsX_J6_numberOfLeadingZeros_0f7a4_1, if_pos z0, if_neg d0, s16 (show T < 2 ^ 32 by omega), if_pos d1, if_pos d2, if_neg d3, s2 (show T / 65536 < 2 ^ 32 by omega), s1 (show T / 65536 / 4 < 2 ^ 32 by omega), q]
            decide
      · have d2 : ¬ nI (T / 65536) < (16 : Int32) := nI_nlt (b := 16) (by omega) (by omega)
        by_cases c3 : T / 65536 / 16 < 4
        · have d3 : nI (T / 65536 / 16) < (4 : Int32) := nI_lt (b := 4) c3 (by decide)
          have hq : T / 65536 / 16 / 2 = 0 ∨ T / 65536 / 16 / 2 = 1 := by omega
          rcases hq with q | q
          · refine ⟨20, by decide, show 1048576 ≤ T by omega, show T < 2097152 by omega, ?_⟩
            simp only [gsX_J6_numberOfLeadingZeros_0f7a4_1, if_pos z0, if_neg d0, s16 (show T < 2 ^ 32 by omega), if_pos d1, if_neg d2, s4 (show T / 65536 < 2 ^ 32 by omega), if_pos d3, s1 (show T / 65536 / 16 < 2 ^ 32 by omega), q]
            decide
          · refine ⟨21, by decide, show 2097152 ≤ T by omega, show T < 4194304 by omega, ?_⟩
            simp only [gsX_J6_numberOfLeadingZeros_0f7a4_1, if_pos z0, if_neg d0, s16 (show T < 2 ^ 32 by omega), if_pos d1, if_neg d2, s4 (show T / 65536 < 2 ^ 32 by omega), if_pos d3, s1 (show T / 65536 / 16 < 2 ^ 32 by omega), q]
            decide
        · have d3 : ¬ nI (T / 65536 / 16) < (4 : Int32) := nI_nlt (b := 4) (by omega) (by omega)
          have hq : T / 65536 / 16 / 4 / 2 = 0 ∨ T / 65536 / 16 / 4 / 2 = 1 := by omega
          rcases hq with q | q
          · refine ⟨22, by decide, show 4194304 ≤ T by omega, show T < 8388608 by omega, ?_⟩
            simp only [gsX_J6_numberOfLeadingZeros_0f7a4_1, if_pos z0, if_neg d0, s16 (show T < 2 ^ 32 by omega), if_pos d1, if_neg d2, s4 (show T / 65536 < 2 ^ 32 by omega), if_neg d3, s2 (show T / 65536 / 16 < 2 ^ 32 by omega), s1 (show T / 65536 / 16 / 4 < 2 ^ 32 by omega), q]
            decide
          · refine ⟨23, by decide, show 8388608 ≤ T by omega, show T < 16777216 by omega, ?_⟩
            simp only [gsX_J6_numberOfLeadingZeros_0f7a4_1, if_pos z0, if_neg d0, s16 (show T < 2 ^ 32 by omega), if_pos d1, if_neg d2, s4 (show T / 65536 < 2 ^ 32 by omega), if_neg d3, s2 (show T / 65536 / 16 < 2 ^ 32 by omega), s1 (show T / 65536 / 16 / 4 < 2 ^ 32 by omega), q]
            decide
    · have d1 : ¬ nI (T / 65536) < (256 : Int32) := nI_nlt (b := 256) (by omega) (by omega)
      by_cases c2 : T / 65536 / 256 < 16
      · have d2 : nI (T / 65536 / 256) < (16 : Int32) := nI_lt (b := 16) c2 (by decide)
        by_cases c3 : T / 65536 / 256 < 4
        · have d3 : nI (T / 65536 / 256) < (4 : Int32) := nI_lt (b := 4) c3 (by decide)
          have hq : T / 65536 / 256 / 2 = 0 ∨ T / 65536 / 256 / 2 = 1 := by omega
          rcases hq with q | q
          · refine ⟨24, by decide, show 16777216 ≤ T by omega, show T < 33554432 by omega, ?_⟩
            simp only [gsX_J6_numberOfLeadingZeros_0f7a4_1, if_pos z0, if_neg d0, s16 (show T < 2 ^ 32 by omega), if_neg d1, s8 (show T / 65536 < 2 ^ 32 by omega), if_pos d2, if_pos d3, s1 (show T / 65536 / 256 < 2 ^ 32 by omega), q]
            decide
          · refine ⟨25, by decide, show 33554432 ≤ T by omega, show T < 67108864 by omega, ?_⟩
            simp only [gsX_J6_numberOfLeadingZeros_0f7a4_1, if_pos z0, if_neg d0, s16 (show T < 2 ^ 32 by omega), if_neg d1, s8 (show T / 65536 < 2 ^ 32 by omega), if_pos d2, if_pos d3, s1 (show T / 65536 / 256 < 2 ^ 32 by omega), q]
            decide
        · have d3 : ¬ nI (T / 65536 / 256) < (4 : Int32) := nI_nlt (b := 4) (by omega) (by omega)
          have hq : T / 65536 / 256 / 4 / 2 = 0 ∨ T / 65536 / 256 / 4 / 2 = 1 := by omega
          rcases hq with q | q
          · refine ⟨26, by decide, show 67108864 ≤ T by omega, show T < 134217728 by omega, ?_⟩
            simp only [gsX_J6_numberOfLeadingZeros_0f7a4_1, if_pos z0, if_neg d0, s16 (show T < 2 ^ 32 by omega), if_neg d1, s8 (show T / 65536 < 2 ^ 32 by omega), if_pos d2, if_neg d3, s2 (show T / 65536 / 256 < 2 ^ 32 by omega), s1 (show T / 65536 / 256 / 4 < 2 ^ 32 by omega), q]
            decide
          · refine ⟨27, by decide, show 134217728 ≤ T by omega, show T < 268435456 by omega, ?_⟩
            simp only [gsX_J6_numberOfLeadingZeros_0f7a4_1, if_pos z0, if_neg d0, s16 (show T < 2 ^ 32 by omega), if_neg d1, s8 (show T / 65536 < 2 ^ 32 by omega), if_pos d2, if_neg d3, s2 (show T / 65536 / 256 < 2 ^ 32 by omega), s1 (show T / 65536 / 256 / 4 < 2 ^ 32 by omega), q]
            decide
      · have d2 : ¬ nI (T / 65536 / 256) < (16 : Int32) := nI_nlt (b := 16) (by omega) (by omega)
        by_cases c3 : T / 65536 / 256 / 16 < 4
        · have d3 : nI (T / 65536 / 256 / 16) < (4 : Int32) := nI_lt (b := 4) c3 (by decide)
          have hq : T / 65536 / 256 / 16 / 2 = 0 ∨ T / 65536 / 256 / 16 / 2 = 1 := by omega
          rcases hq with q | q
          · refine ⟨28, by decide, show 268435456 ≤ T by omega, show T < 536870912 by omega, ?_⟩
            simp only [gsX_J6_numberOfLeadingZeros_0f7a4_1, if_pos z0, if_neg d0, s16 (show T < 2 ^ 32 by omega), if_neg d1, s8 (show T / 65536 < 2 ^ 32 by omega), if_neg d2, s4 (show T / 65536 / 256 < 2 ^ 32 by omega), if_pos d3, s1 (show T / 65536 / 256 / 16 < 2 ^ 32 by omega), q]
            decide
          · refine ⟨29, by decide, show 536870912 ≤ T by omega, show T < 1073741824 by omega, ?_⟩
            simp only [gsX_J6_numberOfLeadingZeros_0f7a4_1, if_pos z0, if_neg d0, s16 (show T < 2 ^ 32 by omega), if_neg d1, s8 (show T / 65536 < 2 ^ 32 by omega), if_neg d2, s4 (show T / 65536 / 256 < 2 ^ 32 by omega), if_pos d3, s1 (show T / 65536 / 256 / 16 < 2 ^ 32 by omega), q]
            decide
        · have d3 : ¬ nI (T / 65536 / 256 / 16) < (4 : Int32) := nI_nlt (b := 4) (by omega) (by omega)
          have hq : T / 65536 / 256 / 16 / 4 / 2 = 0 ∨ T / 65536 / 256 / 16 / 4 / 2 = 1 := by omega
          rcases hq with q | q
          · refine ⟨30, by decide, show 1073741824 ≤ T by omega, show T < 2147483648 by omega, ?_⟩
            simp only [gsX_J6_numberOfLeadingZeros_0f7a4_1, if_pos z0, if_neg d0, s16 (show T < 2 ^ 32 by omega), if_neg d1, s8 (show T / 65536 < 2 ^ 32 by omega), if_neg d2, s4 (show T / 65536 / 256 < 2 ^ 32 by omega), if_neg d3, s2 (show T / 65536 / 256 / 16 < 2 ^ 32 by omega), s1 (show T / 65536 / 256 / 16 / 4 < 2 ^ 32 by omega), q]
            decide
          · exfalso; omega
theorem nlzB {p : Nat → Bool} {k : Nat} (hk : k < 31) (h1 : p k = true) (h0 : ∀ j, k < j → j < 31 → ¬ p j = true) : (31 : Int32) - gsX_J6_numberOfLeadingZeros_0f7a4_1 NF (nI (bts p 31)) v f = nI k := by
  have lt := bt_lt p 31
  have b1 : bts p 31 / 2 ^ k % 2 = 1 := by rw [bt_bit p 31 k hk, if_pos h1]
  have T0 : 0 < bts p 31 := Nat.pos_of_ne_zero (fun e => by rw [e, Nat.zero_div] at b1; exact absurd b1 (by decide))
  obtain ⟨m, m1, m2, m3, m4⟩ := nlzX (NF := NF) (v := v) (f := f) T0 lt
  rw [m4]
  refine congrArg nI ?_
  have bm : p m = true := by
    have q := bt_bit p 31 m m1
    have d1 : bts p 31 / 2 ^ m = 1 := by
      apply Nat.div_eq_of_lt_le
      · rw [Nat.one_mul]; exact m2
      · rw [← Nat.pow_succ'] ; exact m3
    rw [d1] at q
    by_cases z : p m = true
    · exact z
    · rw [if_neg z] at q; exact absurd q (by decide)
  have km : ¬ k < m := fun z => h0 m z m1 bm
  have mk : ¬ m < k := fun z => by
    have d0 : bts p 31 / 2 ^ k = 0 := by
      apply Nat.div_eq_of_lt
      exact Nat.lt_of_lt_of_le m3 (Nat.pow_le_pow_right (by decide) z)
    rw [d0] at b1
    exact absurd b1 (by decide)
  omega
end
end
section
section
variable {NF : Nat} {v : Nat → Int32} {f : Nat → Nat → Int32} {v1 : Nat → Int32} {f1 : Nat → Nat → Int32} {w1 : Int64} {g : Nat → Int64} {r r' : Int32} {u : (Nat → Int32) × (Nat → Nat → Int32)} {u' : (Nat → Int32) × (Nat → Nat → Int32) × Int64 × (Nat → Int64)}
theorem cnt_0 {p : Nat → Bool} : ∀ n, (∀ k, k < n → ¬ p k = true) → cntB p n = 0 := by
  intro n
  induction n with
  | zero => intro _; rfl
  | succ n ih =>
    intro h
    show cntB p n + (if p n = true then 1 else 0) = 0
    rw [ih (fun k hk => h k (by omega)), if_neg (h n (by omega))]
theorem cnt_1 {p : Nat → Bool} {k : Nat} (h : p k = true) : ∀ n, k < n → 0 < cntB p n := by
  intro n
  induction n with
  | zero => intro h; omega
  | succ n ih =>
    intro hk
    show 0 < cntB p n + (if p n = true then 1 else 0)
    by_cases e : k = n
    · subst e; rw [if_pos h]; omega
    · have := ih (by omega); omega
theorem cnt_ab {p q : Nat → Bool} : ∀ n, cntB (fun k => p k && q k) n + cntB (fun k => p k && !q k) n = cntB p n := by
  intro n
  induction n with
  | zero => rfl
  | succ n ih =>
    show (cntB (fun k => p k && q k) n + (if (p n && q n) = true then 1 else 0)) + (cntB (fun k => p k && !q k) n + (if (p n && !q n) = true then 1 else 0)) = cntB p n + (if p n = true then 1 else 0)
    have e : (if (p n && q n) = true then 1 else 0) + (if (p n && !q n) = true then 1 else 0) = (if p n = true then 1 else 0) := by
      cases p n <;> cases q n <;> rfl
    omega
theorem bts_0 {p : Nat → Bool} (h : ∀ k, k < 31 → ¬ p k = true) : bts p 31 = 0 := by
  rw [bt_cg (q := fun _ => false) 31 (fun k hk => Bool.eq_false_iff.mpr (h k hk))]
  decide
theorem bts_1 {p : Nat → Bool} {k : Nat} (hk : k < 31) (h : p k = true) : ¬ nI (bts p 31) = 0 := fun e => by
  have lt := bt_lt p 31
  have z : bts p 31 = 0 := (nI_eq (a := bts p 31) (b := 0) lt (by decide)).mp e
  have q := bt_bit p 31 k hk
  rw [z, Nat.zero_div, if_pos h] at q
  exact absurd q (by decide)
theorem sureY {p1 : Int32} {ok : Nat → Bool} {V : Nat → Int32} {F : Nat → Nat → Int32} (hF : ∀ k, k < 31 → F 35 k = bI (ok k)) : ∃ x : Int32, ((x = -1 ∧ ∀ i, i < 31 → ¬ ok i = true) ∨ ∃ k, k < 31 ∧ ok k = true ∧ x = nI k ∧ ((p1 = 1 ∧ ∀ i, k < i → i < 31 → ¬ ok i = true) ∨ (¬ p1 = 1 ∧ ∀ i, i < k → ¬ ok i = true))) ∧ gsY_X11_sure_1_L13 NF p1 V F w1 g (4294967296 + NF) (-1) 0 = (x, V, F, w1, g) := by
  refine lpQ (S := Int32) (fun fu i s => gsY_X11_sure_1_L13 NF p1 V F w1 g fu s i) (fun r => ∃ x : Int32, ((x = -1 ∧ ∀ i, i < 31 → ¬ ok i = true) ∨ ∃ k, k < 31 ∧ ok k = true ∧ x = nI k ∧ ((p1 = 1 ∧ ∀ i, k < i → i < 31 → ¬ ok i = true) ∨ (¬ p1 = 1 ∧ ∀ i, i < k → ¬ ok i = true))) ∧ r = (x, V, F, w1, g)) (fun j s => (s = -1 ∧ ∀ i, i < j → ¬ ok i = true) ∨ ∃ k, k < j ∧ ok k = true ∧ s = nI k ∧ ((p1 = 1 ∧ ∀ i, k < i → i < j → ¬ ok i = true) ∨ (¬ p1 = 1 ∧ ∀ i, i < k → ¬ ok i = true))) 31 ?_ ?_ 31 0 (4294967296 + NF) (-1) (by omega) (by omega) (Or.inl ⟨rfl, fun i hi => absurd hi (Nat.not_lt_zero _)⟩)
  · intro fu j s hj hs
    have nl : ¬ (30 : Int32) < nI j := fun q => by have := (nI_ltI (a := 30) (b := j) (by omega) (by omega)).mp q; omega
    have cj : (nI j).toNatClampNeg = j := nI_clamp (by omega)
    have e35 := hF j hj
    by_cases o : ok j = true
    · have e1 : F 35 j = 1 := by rw [e35]; unfold bI; rw [if_pos o]
      have n10 : ¬ (1 : Int32) = 0 := by decide
      rcases hs with ⟨h1, h2⟩ | ⟨k, k1, k2, k3, k4⟩
      · have h1 : s = -1 := h1
        subst h1
        refine Or.inl ⟨nI j, Or.inr ⟨j, by omega, o, rfl, ?_⟩, ?_⟩
        · by_cases c : p1 = 1
          · exact Or.inl ⟨c, fun i h3 h4 => by omega⟩
          · exact Or.inr ⟨c, h2⟩
        · show gsY_X11_sure_1_L13 NF p1 V F w1 g (fu + 1) (-1) (nI j) = gsY_X11_sure_1_L13 NF p1 V F w1 g fu (nI j) (nI (j + 1))
          conv => lhs; unfold gsY_X11_sure_1_L13
          simp only [if_neg nl, cj, e1, if_neg n10, if_pos (show (-1 : Int32) < 0 by decide), nI_1]
      · have k3 : s = nI k := k3
        subst k3
        have nk : ¬ nI k < (0 : Int32) := nI_pos (by omega)
        by_cases c : p1 = 1
        · refine Or.inl ⟨nI j, Or.inr ⟨j, by omega, o, rfl, Or.inl ⟨c, fun i h3 h4 => by omega⟩⟩, ?_⟩
          show gsY_X11_sure_1_L13 NF p1 V F w1 g (fu + 1) (nI k) (nI j) = gsY_X11_sure_1_L13 NF p1 V F w1 g fu (nI j) (nI (j + 1))
          conv => lhs; unfold gsY_X11_sure_1_L13
          simp only [if_neg nl, cj, e1, if_neg n10, if_neg nk, if_pos c, nI_1]
        · refine Or.inl ⟨nI k, Or.inr ⟨k, by omega, k2, rfl, Or.inr ⟨c, (k4.resolve_left (fun q => c q.1)).2⟩⟩, ?_⟩
          show gsY_X11_sure_1_L13 NF p1 V F w1 g (fu + 1) (nI k) (nI j) = gsY_X11_sure_1_L13 NF p1 V F w1 g fu (nI k) (nI (j + 1))
          conv => lhs; unfold gsY_X11_sure_1_L13
          simp only [if_neg nl, cj, e1, if_neg n10, if_neg nk, if_neg c, nI_1]
    · have e1 : F 35 j = 0 := by rw [e35]; unfold bI; rw [if_neg o]
      refine Or.inl ⟨s, ?_, ?_⟩
      · rcases hs with ⟨h1, h2⟩ | ⟨k, k1, k2, k3, k4⟩
        · refine Or.inl ⟨h1, fun i hi => ?_⟩
          by_cases e : i = j
          · subst e; exact o
          · exact h2 i (by omega)
        · refine Or.inr ⟨k, by omega, k2, k3, k4.imp (fun q => ⟨q.1, fun i h3 h4 => ?_⟩) id⟩
          by_cases e : i = j
          · subst e; exact o
          · exact q.2 i h3 (by omega)
      · show gsY_X11_sure_1_L13 NF p1 V F w1 g (fu + 1) s (nI j) = gsY_X11_sure_1_L13 NF p1 V F w1 g fu s (nI (j + 1))
        conv => lhs; unfold gsY_X11_sure_1_L13
        simp only [if_neg nl, cj, e1, if_true, nI_1]
  · intro fu s hs
    refine ⟨s, hs, ?_⟩
    show gsY_X11_sure_1_L13 NF p1 V F w1 g (fu + 1) s (nI 31) = _
    conv => lhs; unfold gsY_X11_sure_1_L13
    rw [if_pos (show (30 : Int32) < nI 31 by decide)]
theorem R4.q {y' F' : Nat → Nat → Int32} (h : R4 NF v f v1 f1) (i1 : ∀ q, q ≠ 13 → q ≠ 14 → q ≠ 27 → y' q = f q) (i2 : ¬ v 31 = 0 → ¬ v 32 = 0 → CCK NF v y') (j1 : ∀ q, q ≠ 7 → q ≠ 8 → q ≠ 24 → q ≠ 34 → q ≠ 35 → F' q = f1 q) : R4 NF v y' v1 F' := by
  refine ⟨h.1.keep (fun _ _ => rfl) (fun k hk => i1 k (kx_ne hk rfl) (kx_ne hk rfl) (kx_ne hk rfl)) (fun _ _ => rfl) (fun k hk => j1 k (kx_ne hk rfl) (kx_ne hk rfl) (kx_ne hk rfl) (kx_ne hk rfl) (kx_ne hk rfl)), fun k hk q j hj => ?_, i2⟩
  rw [i1 23 (by decide) (by decide) (by decide), i1 24 (by decide) (by decide) (by decide)]
  exact h.2.1 k hk q j hj
theorem R4.sure {p1 p2 : Int32} (h : R4 NF v f v1 f1) (e : gsX_X10_sure_1 NF p1 p2 v f = (r, u)) (e' : gsY_X11_sure_1 NF p1 p2 v1 f1 w1 g = (r', u')) : r = r' ∧ R4 NF u.1 u.2 u'.1 u'.2.1 := by
  by_cases c : v 31 = 0 ∨ v 32 = 0
  · obtain ⟨x1, y1⟩ := h.1.nob (NF := NF) c p2 w1 g
    simp only [gsX_X10_sure_1, x1, if_true] at e
    cases e
    by_cases c1 : p1 < 0
    · simp only [gsY_X11_sure_1, gsY_X11_isIn_1, if_pos c1, ite01] at e'
      cases e'; exact ⟨rfl, h⟩
    · by_cases c2 : (1 : Int32) < p1
      · simp only [gsY_X11_sure_1, gsY_X11_isIn_1, if_neg c1, if_pos c2, ite01] at e'
        cases e'; exact ⟨rfl, h⟩
      · simp only [gsY_X11_sure_1, gsY_X11_isIn_1, if_neg c1, if_neg c2, ite11, if_true, y1] at e'
        cases e'; exact ⟨rfl, h⟩
  · have d1 : ¬ v 31 = 0 := fun z => c (Or.inl z)
    have d2 : ¬ v 32 = 0 := fun z => c (Or.inr z)
    obtain ⟨a, b, t0, w0, ct, cw, wo, W⟩ := h.1.gw d1 d2
    obtain ⟨n, dn, isb, to, un, n30, n1, n2, S⟩ := h.sh
    have ck := (W.ck (NF := NF) w1 g (V := v) (y := f) (fun _ _ => rfl) (fun _ _ _ => rfl)).mpr (h.2.2 d1 d2)
    obtain ⟨y', i1, i2, i3⟩ := W.atX (NF := NF) w1 g n1 n30 S p2 ck
    obtain ⟨F', ⟨j1, _, j3⟩, j4⟩ := W.layY (NF := NF) w1 g n2 n30 S p2
    have cc : ¬ v 31 = 0 → ¬ v 32 = 0 → CCK NF v y' := fun _ _ => (W.ck (NF := NF) w1 g (V := v) (y := y') (fun _ _ => rfl) (fun q q1 q2 => i1 q (by omega) (by omega) (by omega))).mp i2
    have q1 : R4 NF v y' v1 f1 := h.q i1 cc (fun _ _ _ _ _ _ => rfl)
    have q2 : R4 NF v y' v1 F' := h.q i1 cc j1
    generalize hok : (fun k => okB (gzB NF v1 f1 w1 g w0 ct cw wo) p2 dn isb to un k n) = ok at *
    have i3 : gsX_X8_growthsAt_1 NF p2 v f = (nI (bts ok 31), v, y') := i3
    have j4 : gsY_X11_layGrowths_1 NF p2 v1 f1 w1 g = (nI (cntB ok 31), v1, F', w1, g) := j4
    have j3 : ∀ k, k < 31 → F' 35 k = bI (ok k) := j3
    by_cases c1 : p1 < 0
    · simp only [gsY_X11_sure_1, gsY_X11_isIn_1, if_pos c1, ite01] at e'
      cases e'
      by_cases z : nI (bts ok 31) = 0
      · simp only [gsX_X10_sure_1, i3, if_pos z] at e
        cases e; exact ⟨rfl, q1⟩
      · simp only [gsX_X10_sure_1, i3, if_neg z, if_pos c1] at e
        cases e; exact ⟨rfl, q1⟩
    · by_cases c2 : p1 ≤ 1
      · have c2' : ¬ (1 : Int32) < p1 := fun z => by
          have z1 := (fa_lt _ _).mp z
          have z2 := (fa_le _ _).mp c2
          omega
        obtain ⟨x, x1, x2⟩ := sureY (NF := NF) (p1 := p1) (V := v1) (w1 := w1) (g := g) j3
        by_cases ex : ∃ k, k < 31 ∧ ok k = true
        · obtain ⟨k, hk, hok1⟩ := ex
          have z : ¬ nI (bts ok 31) = 0 := bts_1 hk hok1
          have cl := cntB_le ok 31
          have z2 : ¬ nI (cntB ok 31) = 0 := fun q => by
            have := (nI_eq (a := cntB ok 31) (b := 0) (by omega) (by decide)).mp q
            have := cnt_1 hok1 31 hk
            omega
          simp only [gsY_X11_sure_1, gsY_X11_isIn_1, if_neg c1, if_neg c2', ite11, if_true, j4, if_neg z2, x2] at e'
          cases e'
          rcases x1 with ⟨_, x1⟩ | ⟨k', k1, k2, k3, k4⟩
          · exact absurd hok1 (x1 k hk)
          · rw [k3]
            by_cases p0 : p1 = 0
            · have m := ntzX (NF := NF) (v := v) (f := y') k1 k2 ((k4.resolve_left (fun q => by rw [p0] at q; exact absurd q.1 (by decide))).2)
              simp only [gsX_X10_sure_1, i3, if_neg z, if_neg c1, if_pos c2, if_pos p0, m] at e
              cases e; exact ⟨rfl, q2⟩
            · have p11 : p1 = 1 := by
                apply Int32.toInt_inj.mp
                have a1 : ¬ p1.toInt < (0 : Int32).toInt := fun q => c1 ((fa_lt _ _).mpr q)
                have a2 := (fa_le _ _).mp c2
                have a3 : ¬ p1.toInt = (0 : Int32).toInt := fun q => p0 (Int32.toInt_inj.mp q)
                have b0 : (0 : Int32).toInt = 0 := by decide
                have b1 : (1 : Int32).toInt = 1 := by decide
                omega
              have m := nlzB (NF := NF) (v := v) (f := y') k1 k2 ((k4.resolve_right (fun q => q.1 p11)).2)
              simp only [gsX_X10_sure_1, i3, if_neg z, if_neg c1, if_pos c2, if_neg p0, m] at e
              cases e; exact ⟨rfl, q2⟩
        · have no : ∀ k, k < 31 → ¬ ok k = true := fun k hk q => ex ⟨k, hk, q⟩
          have z : nI (bts ok 31) = 0 := by rw [bts_0 no]; rfl
          have z2 : nI (cntB ok 31) = 0 := by rw [cnt_0 31 no]; rfl
          simp only [gsX_X10_sure_1, i3, if_pos z] at e
          simp only [gsY_X11_sure_1, gsY_X11_isIn_1, if_neg c1, if_neg c2', ite11, if_true, j4, if_pos z2] at e'
          cases e; cases e'
          exact ⟨rfl, q2⟩
      · have c2' : (1 : Int32) < p1 := by
          apply (fa_lt _ _).mpr
          have z : ¬ p1.toInt ≤ (1 : Int32).toInt := fun q => c2 ((fa_le _ _).mpr q)
          omega
        simp only [gsY_X11_sure_1, gsY_X11_isIn_1, if_neg c1, if_pos c2', ite01] at e'
        cases e'
        by_cases z : nI (bts ok 31) = 0
        · simp only [gsX_X10_sure_1, i3, if_pos z] at e
          cases e; exact ⟨rfl, q1⟩
        · simp only [gsX_X10_sure_1, i3, if_neg z, if_neg c1, if_neg c2] at e
          cases e; exact ⟨rfl, q1⟩
end
end
section
section
variable {NF : Nat} {v : Nat → Int32} {f : Nat → Nat → Int32} {v1 : Nat → Int32} {f1 : Nat → Nat → Int32} {w1 : Int64} {g : Nat → Int64} {r r' : Int32} {u : (Nat → Int32) × (Nat → Nat → Int32)} {u' : (Nat → Int32) × (Nat → Nat → Int32) × Int64 × (Nat → Int64)}
def lfB (ok : Nat → Bool) (p : Nat → Nat → Bool) (d : Nat) : Nat := max (cntB (fun k => ok k && p k d) 31) (cntB (fun k => ok k && !p k d) 31)
def bqB (l : Nat → Nat) : Nat → Nat
  | 0 => 0
  | n + 1 => if l (bqB l n) ≤ l (n + 1) then bqB l n else n + 1
theorem bq_le {l : Nat → Nat} : ∀ n, bqB l n ≤ n := by
  intro n
  induction n with
  | zero => exact Nat.le_refl 0
  | succ n ih =>
    show (if l (bqB l n) ≤ l (n + 1) then bqB l n else n + 1) ≤ n + 1
    split <;> omega
theorem bq_s {l : Nat → Nat} {j : Nat} (h : 1 ≤ j) : bqB l (j + 1 - 1) = if l (bqB l (j - 1)) ≤ l j then bqB l (j - 1) else j := by
  obtain ⟨i, rfl⟩ : ∃ i, j = i + 1 := ⟨j - 1, by omega⟩
  rfl
theorem lf_le {ok : Nat → Bool} {p : Nat → Nat → Bool} {d : Nat} : lfB ok p d ≤ 31 := Nat.max_le.mpr ⟨cntB_le _ 31, cntB_le _ 31⟩
theorem mxX {A B : Nat} (hA : A ≤ 31) (hB : B ≤ 31) : (if nI A < nI B then nI B else nI A) = nI (max A B) := by
  by_cases c : A < B
  · rw [if_pos (nI_lt c (show B < 2 ^ 31 by omega)), show max A B = B by omega]
  · rw [if_neg (nI_nlt (show B ≤ A by omega) (show A < 2 ^ 31 by omega)), show max A B = A by omega]
section
variable {a b t0 w0 ct cw wo : Nat} {ok : Nat → Bool}
theorem GW.leftX (W : GW v f v1 f1 a b t0 w0 ct cw wo) (w1 : Int64) (g : Nat → Int64) {d : Nat} (hd : d ≤ 20) {y : Nat → Nat → Int32} (hy : ∀ q, q ≠ 13 → q ≠ 14 → q ≠ 27 → y q = f q) (hc : CK (gzB NF v1 f1 w1 g w0 ct cw wo) y) : ∃ y' : Nat → Nat → Int32, (∀ q, q ≠ 13 → q ≠ 14 → q ≠ 27 → y' q = f q) ∧ CK (gzB NF v1 f1 w1 g w0 ct cw wo) y' ∧ gsX_X8_leftAtMost_1 NF (nI (bts ok 31)) (nI d) v y = (nI (lfB ok (gzB NF v1 f1 w1 g w0 ct cw wo) d), v, y') := by
  obtain ⟨B, k1, k2, k3⟩ := W.behX (NF := NF) w1 g hd (V := v) (y := y) (fun _ _ => rfl) (fun q q1 q2 => hy q (by omega) (by omega) (by omega)) hc
  refine ⟨B, fun q q1 q2 q3 => (k1 q q1 q2 q3).trans (hy q q1 q2 q3), k2, ?_⟩
  have e1 := bt_and ok (fun k => (gzB NF v1 f1 w1 g w0 ct cw wo) k d) 31
  have e2 := bt_andn ok (fun k => (gzB NF v1 f1 w1 g w0 ct cw wo) k d) (n := 31) (by decide)
  have m1 := mxX (A := cntB (fun k => ok k && (gzB NF v1 f1 w1 g w0 ct cw wo) k d) 31) (B := cntB (fun k => ok k && !(gzB NF v1 f1 w1 g w0 ct cw wo) k d) 31) (cntB_le _ 31) (cntB_le _ 31)
  have st : gsX_X8_leftAtMost_1 NF (nI (bts ok 31)) (nI d) v y = (nI (max (cntB (fun k => ok k && (gzB NF v1 f1 w1 g w0 ct cw wo) k d) 31) (cntB (fun k => ok k && !(gzB NF v1 f1 w1 g w0 ct cw wo) k d) 31)), v, B) := by
    simp only [gsX_X8_leftAtMost_1, k3, e1, e2, bcB, m1]
  exact st
theorem GW.bqX (W : GW v f v1 f1 a b t0 w0 ct cw wo) (w1 : Int64) (g : Nat → Int64) {y : Nat → Nat → Int32} (hy : ∀ q, q ≠ 13 → q ≠ 14 → q ≠ 27 → y q = f q) (hc : CK (gzB NF v1 f1 w1 g w0 ct cw wo) y) : ∃ y' : Nat → Nat → Int32, (∀ q, q ≠ 13 → q ≠ 14 → q ≠ 27 → y' q = f q) ∧ CK (gzB NF v1 f1 w1 g w0 ct cw wo) y' ∧ gsX_X8_bestQuestion_1 NF (nI (bts ok 31)) v y = (nI (bqB (lfB ok (gzB NF v1 f1 w1 g w0 ct cw wo)) 20), v, y') := by
  refine lpQ (S := Int32 × (Nat → Nat → Int32)) (fun fu i s => gsX_X8_bestQuestion_1_L1 NF (nI (bts ok 31)) fu s.1 i v s.2) (fun r => ∃ y' : Nat → Nat → Int32, (∀ q, q ≠ 13 → q ≠ 14 → q ≠ 27 → y' q = f q) ∧ CK (gzB NF v1 f1 w1 g w0 ct cw wo) y' ∧ r = (nI (bqB (lfB ok (gzB NF v1 f1 w1 g w0 ct cw wo)) 20), v, y')) (fun j s => 1 ≤ j ∧ s.1 = nI (bqB (lfB ok (gzB NF v1 f1 w1 g w0 ct cw wo)) (j - 1)) ∧ (∀ q, q ≠ 13 → q ≠ 14 → q ≠ 27 → s.2 q = f q) ∧ CK (gzB NF v1 f1 w1 g w0 ct cw wo) s.2) 21 ?_ ?_ 20 1 (4294967296 + NF) (0, y) (by omega) (by omega) ⟨Nat.le_refl 1, rfl, hy, hc⟩
  · rintro fu j ⟨s, y0⟩ hj ⟨j1, h1, h2, h3⟩
    have h1 : s = nI (bqB (lfB ok (gzB NF v1 f1 w1 g w0 ct cw wo)) (j - 1)) := h1
    subst h1
    have nl : ¬ (20 : Int32) < nI j := fun q => by have := (nI_ltI (a := 20) (b := j) (by omega) (by omega)).mp q; omega
    have bl := bq_le (l := lfB ok (gzB NF v1 f1 w1 g w0 ct cw wo)) (j - 1)
    obtain ⟨y1, a1, a2, a3⟩ := W.leftX (NF := NF) (ok := ok) w1 g (d := j) (by omega) (y := y0) h2 h3
    obtain ⟨y2, b1, b2, b3⟩ := W.leftX (NF := NF) (ok := ok) w1 g (d := bqB (lfB ok (gzB NF v1 f1 w1 g w0 ct cw wo)) (j - 1)) (by omega) (y := y1) a1 a2
    have lj := lf_le (ok := ok) (p := (gzB NF v1 f1 w1 g w0 ct cw wo)) (d := j)
    have lb := lf_le (ok := ok) (p := (gzB NF v1 f1 w1 g w0 ct cw wo)) (d := bqB (lfB ok (gzB NF v1 f1 w1 g w0 ct cw wo)) (j - 1))
    have st := bq_s (l := lfB ok (gzB NF v1 f1 w1 g w0 ct cw wo)) j1
    refine Or.inl ⟨(nI (bqB (lfB ok (gzB NF v1 f1 w1 g w0 ct cw wo)) (j + 1 - 1)), y2), ⟨by omega, rfl, b1, b2⟩, ?_⟩
    show gsX_X8_bestQuestion_1_L1 NF (nI (bts ok 31)) (fu + 1) (nI (bqB (lfB ok (gzB NF v1 f1 w1 g w0 ct cw wo)) (j - 1))) (nI j) v y0 = gsX_X8_bestQuestion_1_L1 NF (nI (bts ok 31)) fu (nI (bqB (lfB ok (gzB NF v1 f1 w1 g w0 ct cw wo)) (j + 1 - 1))) (nI (j + 1)) v y2
    rw [st]
    conv => lhs; unfold gsX_X8_bestQuestion_1_L1
    by_cases c : lfB ok (gzB NF v1 f1 w1 g w0 ct cw wo) (bqB (lfB ok (gzB NF v1 f1 w1 g w0 ct cw wo)) (j - 1)) ≤ lfB ok (gzB NF v1 f1 w1 g w0 ct cw wo) j
    · simp only [if_neg nl, a3, b3, if_pos (nI_le c (show lfB ok (gzB NF v1 f1 w1 g w0 ct cw wo) j < 2 ^ 31 by omega)), if_pos c, nI_1]
    · simp only [if_neg nl, a3, b3, if_neg (nI_ge (show lfB ok (gzB NF v1 f1 w1 g w0 ct cw wo) j < lfB ok (gzB NF v1 f1 w1 g w0 ct cw wo) (bqB (lfB ok (gzB NF v1 f1 w1 g w0 ct cw wo)) (j - 1)) by omega) (show lfB ok (gzB NF v1 f1 w1 g w0 ct cw wo) (bqB (lfB ok (gzB NF v1 f1 w1 g w0 ct cw wo)) (j - 1)) < 2 ^ 31 by omega)), if_neg c, nI_1]
  · rintro fu ⟨s, y0⟩ ⟨_, h1, h2, h3⟩
    have h1 : s = nI (bqB (lfB ok (gzB NF v1 f1 w1 g w0 ct cw wo)) 20) := h1
    subst h1
    refine ⟨y0, h2, h3, ?_⟩
    show gsX_X8_bestQuestion_1_L1 NF (nI (bts ok 31)) (fu + 1) (nI (bqB (lfB ok (gzB NF v1 f1 w1 g w0 ct cw wo)) 20)) (nI 21) v y0 = _
    conv => lhs; unfold gsX_X8_bestQuestion_1_L1
    rw [if_pos (show (20 : Int32) < nI 21 by decide)]
end
section
variable {p : Nat → Nat → Bool} {ok : Nat → Bool} {V : Nat → Int32} {F : Nat → Nat → Int32}
theorem leftY (h35 : ∀ k, k < 31 → F 35 k = bI (ok k)) (h34 : ∀ k d, d ≤ 20 → k < 31 → F 34 (21 * k + d) = bI (p k d)) {d : Nat} (hd : d ≤ 20) : gsY_X11_leftBy_1 NF (nI d) (nI (cntB ok 31)) V F w1 g = nI (lfB ok p d) := by
  refine lpQ (S := Int32) (fun fu i s => gsY_X11_leftBy_1_L1 NF (nI d) (nI (cntB ok 31)) V F w1 g fu s i) (fun r => r = nI (lfB ok p d)) (fun j s => s = nI (cntB (fun k => ok k && p k d) j)) 31 ?_ ?_ 31 0 (4294967296 + NF) 0 (by omega) (by omega) rfl
  · intro fu j s hj hs
    have hs : s = nI (cntB (fun k => ok k && p k d) j) := hs
    subst hs
    have nl : ¬ (30 : Int32) < nI j := fun q => by have := (nI_ltI (a := 30) (b := j) (by omega) (by omega)).mp q; omega
    have cj : (nI j).toNatClampNeg = j := nI_clamp (by omega)
    have e21 : (21 : Int32) * nI j = nI (21 * j) := nI_mulI 21 j
    have ea : nI (21 * j) + nI d = nI (21 * j + d) := nI_add _ _
    have ec : (nI (21 * j + d)).toNatClampNeg = 21 * j + d := nI_clamp (by omega)
    have t0' : gsY_X11_truth_1 NF 0 V F w1 g = 0 := rfl
    have t1 : gsY_X11_truth_1 NF 1 V F w1 g = 1 := rfl
    have n10 : ¬ (1 : Int32) = 0 := by decide
    have e35 := h35 j hj
    have e34 := h34 j d hd hj
    refine Or.inl ⟨nI (cntB (fun k => ok k && p k d) (j + 1)), rfl, ?_⟩
    show gsY_X11_leftBy_1_L1 NF (nI d) (nI (cntB ok 31)) V F w1 g (fu + 1) (nI (cntB (fun k => ok k && p k d) j)) (nI j) = gsY_X11_leftBy_1_L1 NF (nI d) (nI (cntB ok 31)) V F w1 g fu (nI (cntB (fun k => ok k && p k d) (j + 1))) (nI (j + 1))
    conv => lhs; unfold gsY_X11_leftBy_1_L1
    by_cases o : ok j = true
    · have x35 : F 35 j = 1 := by rw [e35]; unfold bI; rw [if_pos o]
      by_cases q : p j d = true
      · have x34 : F 34 (21 * j + d) = 1 := by rw [e34]; unfold bI; rw [if_pos q]
        have cs : cntB (fun k => ok k && p k d) (j + 1) = cntB (fun k => ok k && p k d) j + 1 := by
          show cntB (fun k => ok k && p k d) j + (if (ok j && p j d) = true then 1 else 0) = _
          rw [o, q]; rfl
        simp only [if_neg nl, cj, x35, if_neg n10, e21, ea, ec, x34, t1, nI_1, cs]
      · have x34 : F 34 (21 * j + d) = 0 := by rw [e34]; unfold bI; rw [if_neg q]
        have cs : cntB (fun k => ok k && p k d) (j + 1) = cntB (fun k => ok k && p k d) j := by
          show cntB (fun k => ok k && p k d) j + (if (ok j && p j d) = true then 1 else 0) = _
          rw [o, Bool.eq_false_iff.mpr q]; rfl
        simp only [if_neg nl, cj, x35, if_neg n10, e21, ea, ec, x34, if_true, t0', nI_add0, nI_1, cs]
    · have x35 : F 35 j = 0 := by rw [e35]; unfold bI; rw [if_neg o]
      have cs : cntB (fun k => ok k && p k d) (j + 1) = cntB (fun k => ok k && p k d) j := by
        show cntB (fun k => ok k && p k d) j + (if (ok j && p j d) = true then 1 else 0) = _
        rw [Bool.eq_false_iff.mpr o, Bool.false_and]; rfl
      simp only [if_neg nl, cj, x35, if_true, t0', nI_add0, nI_1, cs]
  · intro fu s hs
    have hs : s = nI (cntB (fun k => ok k && p k d) 31) := hs
    subst hs
    have ab := cnt_ab (p := ok) (q := fun k => p k d) 31
    have ab : cntB (fun k => ok k && p k d) 31 + cntB (fun k => ok k && !p k d) 31 = cntB ok 31 := ab
    have l1 := cntB_le (fun k => ok k && p k d) 31
    have l2 := cntB_le (fun k => ok k && !p k d) 31
    have sb : nI (cntB ok 31) - nI (cntB (fun k => ok k && p k d) 31) = nI (cntB (fun k => ok k && !p k d) 31) := by
      rw [nI_subI (by omega)]
      exact congrArg nI (by omega)
    show gsY_X11_leftBy_1_L1 NF (nI d) (nI (cntB ok 31)) V F w1 g (fu + 1) (nI (cntB (fun k => ok k && p k d) 31)) (nI 31) = nI (max (cntB (fun k => ok k && p k d) 31) (cntB (fun k => ok k && !p k d) 31))
    generalize cntB (fun k => ok k && p k d) 31 = A at *
    generalize cntB (fun k => ok k && !p k d) 31 = B at *
    conv => lhs; unfold gsY_X11_leftBy_1_L1
    simp only [if_pos (show (30 : Int32) < nI 31 by decide), sb, gsY_X11_greater_1]
    by_cases c : A ≤ B
    · rw [if_pos (nI_le c (show B < 2 ^ 31 by omega)), show max A B = B by omega]
    · rw [if_neg (nI_ge (show B < A by omega) (show A < 2 ^ 31 by omega)), show max A B = A by omega]
theorem askY {p1 : Int32} (h35 : ∀ k, k < 31 → F 35 k = bI (ok k)) (h34 : ∀ k d, d ≤ 20 → k < 31 → F 34 (21 * k + d) = bI (p k d)) : gsY_X11_ask_1_L13 NF p1 (nI (cntB ok 31)) V F w1 g (4294967296 + NF) 0 1 = ((if p1 = 0 then nI (bqB (lfB ok p) 20) else nI (lfB ok p (bqB (lfB ok p) 20))), V, F, w1, g) := by
  refine lpQ (S := Int32) (fun fu i s => gsY_X11_ask_1_L13 NF p1 (nI (cntB ok 31)) V F w1 g fu s i) (fun r => r = ((if p1 = 0 then nI (bqB (lfB ok p) 20) else nI (lfB ok p (bqB (lfB ok p) 20))), V, F, w1, g)) (fun j s => 1 ≤ j ∧ s = nI (bqB (lfB ok p) (j - 1))) 21 ?_ ?_ 20 1 (4294967296 + NF) 0 (by omega) (by omega) ⟨Nat.le_refl 1, rfl⟩
  · rintro fu j s hj ⟨j1, hs⟩
    have hs : s = nI (bqB (lfB ok p) (j - 1)) := hs
    subst hs
    have nl : ¬ (20 : Int32) < nI j := fun q => by have := (nI_ltI (a := 20) (b := j) (by omega) (by omega)).mp q; omega
    have bl := bq_le (l := lfB ok p) (j - 1)
    have a3 := leftY (NF := NF) (V := V) (w1 := w1) (g := g) h35 h34 (d := j) (by omega)
    have b3 := leftY (NF := NF) (V := V) (w1 := w1) (g := g) h35 h34 (d := bqB (lfB ok p) (j - 1)) (by omega)
    have lj := lf_le (ok := ok) (p := p) (d := j)
    have lb := lf_le (ok := ok) (p := p) (d := bqB (lfB ok p) (j - 1))
    have st := bq_s (l := lfB ok p) j1
    refine Or.inl ⟨nI (bqB (lfB ok p) (j + 1 - 1)), ⟨by omega, rfl⟩, ?_⟩
    show gsY_X11_ask_1_L13 NF p1 (nI (cntB ok 31)) V F w1 g (fu + 1) (nI (bqB (lfB ok p) (j - 1))) (nI j) = gsY_X11_ask_1_L13 NF p1 (nI (cntB ok 31)) V F w1 g fu (nI (bqB (lfB ok p) (j + 1 - 1))) (nI (j + 1))
    rw [st]
    conv => lhs; unfold gsY_X11_ask_1_L13
    by_cases c : lfB ok p (bqB (lfB ok p) (j - 1)) ≤ lfB ok p j
    · simp only [if_neg nl, a3, b3, if_pos (nI_le c (show lfB ok p j < 2 ^ 31 by omega)), if_pos c, nI_1]
    · simp only [if_neg nl, a3, b3, if_neg (nI_ge (show lfB ok p j < lfB ok p (bqB (lfB ok p) (j - 1)) by omega) (show lfB ok p (bqB (lfB ok p) (j - 1)) < 2 ^ 31 by omega)), if_neg c, nI_1]
  · rintro fu s ⟨_, hs⟩
    have hs : s = nI (bqB (lfB ok p) 20) := hs
    subst hs
    have bl := bq_le (l := lfB ok p) 20
    have b3 := leftY (NF := NF) (V := V) (w1 := w1) (g := g) h35 h34 (d := bqB (lfB ok p) 20) bl
    show gsY_X11_ask_1_L13 NF p1 (nI (cntB ok 31)) V F w1 g (fu + 1) (nI (bqB (lfB ok p) 20)) (nI 21) = _
    conv => lhs; unfold gsY_X11_ask_1_L13
    rw [if_pos (show (20 : Int32) < nI 21 by decide)]
    by_cases z : p1 = 0
    · rw [if_pos z, if_pos z]
    · rw [if_neg z, if_neg z]
      simp only [b3]
end
theorem R4.ask {p1 p2 : Int32} (h : R4 NF v f v1 f1) (e : gsX_X10_ask_1 NF p1 p2 v f = (r, u)) (e' : gsY_X11_ask_1 NF p1 p2 v1 f1 w1 g = (r', u')) : r = r' ∧ R4 NF u.1 u.2 u'.1 u'.2.1 := by
  by_cases c : v 31 = 0 ∨ v 32 = 0
  · obtain ⟨x1, y1⟩ := h.1.nob (NF := NF) c p2 w1 g
    simp only [gsX_X10_ask_1, x1, if_true] at e
    cases e
    by_cases c1 : p1 < 0
    · simp only [gsY_X11_ask_1, gsY_X11_isIn_1, if_pos c1, ite01] at e'
      cases e'; exact ⟨rfl, h⟩
    · by_cases c2 : (1 : Int32) < p1
      · simp only [gsY_X11_ask_1, gsY_X11_isIn_1, if_neg c1, if_pos c2, ite01] at e'
        cases e'; exact ⟨rfl, h⟩
      · simp only [gsY_X11_ask_1, gsY_X11_isIn_1, if_neg c1, if_neg c2, ite11, if_true, y1] at e'
        cases e'; exact ⟨rfl, h⟩
  · have d1 : ¬ v 31 = 0 := fun z => c (Or.inl z)
    have d2 : ¬ v 32 = 0 := fun z => c (Or.inr z)
    obtain ⟨a, b, t0, w0, ct, cw, wo, W⟩ := h.1.gw d1 d2
    obtain ⟨n, dn, isb, to, un, n30, n1, n2, S⟩ := h.sh
    have ck := (W.ck (NF := NF) w1 g (V := v) (y := f) (fun _ _ => rfl) (fun _ _ _ => rfl)).mpr (h.2.2 d1 d2)
    obtain ⟨y', i1, i2, i3⟩ := W.atX (NF := NF) w1 g n1 n30 S p2 ck
    obtain ⟨F', ⟨j1, j2, j3⟩, j4⟩ := W.layY (NF := NF) w1 g n2 n30 S p2
    have ccY : ∀ {y : Nat → Nat → Int32}, (∀ q, q ≠ 13 → q ≠ 14 → q ≠ 27 → y q = f q) → CK (gzB NF v1 f1 w1 g w0 ct cw wo) y → ¬ v 31 = 0 → ¬ v 32 = 0 → CCK NF v y := fun i1 i2 _ _ => (W.ck (NF := NF) w1 g (V := v) (fun _ _ => rfl) (fun q q1 q2 => i1 q (by omega) (by omega) (by omega))).mp i2
    have q1 : R4 NF v y' v1 f1 := h.q i1 (ccY i1 i2) (fun _ _ _ _ _ _ => rfl)
    have q2 : R4 NF v y' v1 F' := h.q i1 (ccY i1 i2) j1
    generalize hok : (fun k => okB (gzB NF v1 f1 w1 g w0 ct cw wo) p2 dn isb to un k n) = ok at *
    have i3 : gsX_X8_growthsAt_1 NF p2 v f = (nI (bts ok 31), v, y') := i3
    have j4 : gsY_X11_layGrowths_1 NF p2 v1 f1 w1 g = (nI (cntB ok 31), v1, F', w1, g) := j4
    have j3 : ∀ k, k < 31 → F' 35 k = bI (ok k) := j3
    have j2 : ∀ k d, d ≤ 20 → k < 31 → F' 34 (21 * k + d) = bI ((gzB NF v1 f1 w1 g w0 ct cw wo) k d) := j2
    by_cases c1 : p1 < 0
    · simp only [gsY_X11_ask_1, gsY_X11_isIn_1, if_pos c1, ite01] at e'
      cases e'
      by_cases z : nI (bts ok 31) = 0
      · simp only [gsX_X10_ask_1, i3, if_pos z] at e
        cases e; exact ⟨rfl, q1⟩
      · simp only [gsX_X10_ask_1, i3, if_neg z, if_pos c1] at e
        cases e; exact ⟨rfl, q1⟩
    · by_cases c2 : p1 ≤ 1
      · have c2' : ¬ (1 : Int32) < p1 := fun z => by
          have z1 := (fa_lt _ _).mp z
          have z2 := (fa_le _ _).mp c2
          omega
        by_cases ex : ∃ k, k < 31 ∧ ok k = true
        · obtain ⟨k, hk, hok1⟩ := ex
          have z : ¬ nI (bts ok 31) = 0 := bts_1 hk hok1
          have cl := cntB_le ok 31
          have z2 : ¬ nI (cntB ok 31) = 0 := fun q => by
            have := (nI_eq (a := cntB ok 31) (b := 0) (by omega) (by decide)).mp q
            have := cnt_1 hok1 31 hk
            omega
          have ay := askY (NF := NF) (p1 := p1) (V := v1) (w1 := w1) (g := g) j3 j2
          simp only [gsY_X11_ask_1, gsY_X11_isIn_1, if_neg c1, if_neg c2', ite11, if_true, j4, if_neg z2, ay] at e'
          cases e'
          obtain ⟨y2, k1, k2, k3⟩ := W.bqX (NF := NF) (ok := ok) w1 g (y := y') i1 i2
          by_cases p0 : p1 = 0
          · simp only [gsX_X10_ask_1, i3, if_neg z, if_neg c1, if_pos c2, k3, if_pos p0] at e
            cases e
            exact ⟨(if_pos p0).symm, h.q k1 (ccY k1 k2) j1⟩
          · obtain ⟨y3, l1, l2, l3⟩ := W.leftX (NF := NF) (ok := ok) w1 g (d := bqB (lfB ok (gzB NF v1 f1 w1 g w0 ct cw wo)) 20) (bq_le 20) (y := y2) k1 k2
            simp only [gsX_X10_ask_1, i3, if_neg z, if_neg c1, if_pos c2, k3, if_neg p0, l3] at e
            cases e
            exact ⟨(if_neg p0).symm, h.q l1 (ccY l1 l2) j1⟩
        · have no : ∀ k, k < 31 → ¬ ok k = true := fun k hk q => ex ⟨k, hk, q⟩
          have z : nI (bts ok 31) = 0 := by rw [bts_0 no]; rfl
          have z2 : nI (cntB ok 31) = 0 := by rw [cnt_0 31 no]; rfl
          simp only [gsX_X10_ask_1, i3, if_pos z] at e
          simp only [gsY_X11_ask_1, gsY_X11_isIn_1, if_neg c1, if_neg c2', ite11, if_true, j4, if_pos z2] at e'
          cases e; cases e'
          exact ⟨rfl, q2⟩
      · have c2' : (1 : Int32) < p1 := by
          apply (fa_lt _ _).mpr
          have z : ¬ p1.toInt ≤ (1 : Int32).toInt := fun q => c2 ((fa_le _ _).mpr q)
          omega
        simp only [gsY_X11_ask_1, gsY_X11_isIn_1, if_neg c1, if_pos c2', ite01] at e'
        cases e'
        by_cases z : nI (bts ok 31) = 0
        · simp only [gsX_X10_ask_1, i3, if_pos z] at e
          cases e; exact ⟨rfl, q1⟩
        · simp only [gsX_X10_ask_1, i3, if_neg z, if_neg c1, if_neg c2] at e
          cases e; exact ⟨rfl, q1⟩
end
end
