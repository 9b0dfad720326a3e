def ck1 (c : ByteArray) (p o : Nat) : Bool := match c.data.toList.drop p with | a :: _ => Nat.beq a.toNat o | _ => false
def ck2 (c : ByteArray) (p o n : Nat) : Bool := match c.data.toList.drop p with | a :: b :: _ => Nat.beq a.toNat o && Nat.beq b.toNat n | _ => false
def ck2s (c : ByteArray) (p o : Nat) (z : Int) : Bool := match c.data.toList.drop p with | a :: b :: _ => Nat.beq a.toNat o && decide (Jvm.ClassFile.Reader.signed 8 b.toNat = z) | _ => false
def ck3 (c : ByteArray) (p o n : Nat) : Bool := match c.data.toList.drop p with | a :: b :: d :: _ => Nat.beq a.toNat o && Nat.beq (b.toNat * 256 + d.toNat) n | _ => false
def ck3s (c : ByteArray) (p o : Nat) (z : Int) : Bool := match c.data.toList.drop p with | a :: b :: d :: _ => Nat.beq a.toNat o && decide (Jvm.ClassFile.Reader.signed 16 (b.toNat * 256 + d.toNat) = z) | _ => false
def ck3i (c : ByteArray) (p o n : Nat) (z : Int) : Bool := match c.data.toList.drop p with | a :: b :: d :: _ => Nat.beq a.toNat o && (Nat.beq b.toNat n && decide (Jvm.ClassFile.Reader.signed 8 d.toNat = z)) | _ => false
theorem ck_dr {L : List UInt8} {p : Nat} {a : UInt8} {t : List UInt8} (h : L.drop p = a :: t) : L[p]? = some a ∧ L.drop (p + 1) = t := by
  refine ⟨?_, ?_⟩
  · have e : (L.drop p)[0]? = L[p + 0]? := List.getElem?_drop
    rw [h] at e
    exact e.symm
  · have e : (L.drop p).drop 1 = L.drop (p + 1) := List.drop_drop
    rw [h] at e
    exact e.symm
theorem ck_u1 {c : ByteArray} {p : Nat} {a : UInt8} (h : c.data.toList[p]? = some a) : (Jvm.ClassFile.Reader.u1 : Jvm.ClassFile.Decoder Nat) c p = .ok (a.toNat, p + 1) := by
  obtain ⟨hp, e⟩ := List.getElem?_eq_some_iff.mp h
  have hp' : p < c.size := hp
  have e' : c[p] = a := e
  have u : (Jvm.ClassFile.Reader.u1 : Jvm.ClassFile.Decoder Nat) c p = (dite (p < c.size) (fun h => (fun _ _ => Except.ok (c[p].toNat, p + 1) : Jvm.ClassFile.Decoder Nat)) (fun _ => (throw (Jvm.ClassFile.HasTruncated.truncated p) : Jvm.ClassFile.Decoder Nat))) c p := by
    by_cases z : p < c.size
    · show (dite (p < c.size) _ _ : Jvm.ClassFile.Decoder Nat) c p = _
      rw [dif_pos z, dif_pos z]; rfl
    · exact absurd hp' z
  rw [u, dif_pos hp']
  show Except.ok (c[p].toNat, p + 1) = _
  rw [e']
theorem ck_rb {α β : Type} (x : Jvm.ClassFile.Decoder α) (k : α → Jvm.ClassFile.Decoder β) {c : ByteArray} {p q : Nat} {a : α} (h : x c p = .ok (a, q)) : (x >>= k) c p = k a c q := by
  have e : (x >>= k) c p = Except.bind (x c p) (fun y => k y.1 c y.2) := rfl
  rw [e, h]; rfl
theorem ck_u2 {c : ByteArray} {p m n : Nat} (h : (Jvm.ClassFile.Reader.u1 : Jvm.ClassFile.Decoder Nat) c p = .ok (m, p + 1)) (h' : (Jvm.ClassFile.Reader.u1 : Jvm.ClassFile.Decoder Nat) c (p + 1) = .ok (n, p + 2)) : (Jvm.ClassFile.Reader.u2 : Jvm.ClassFile.Decoder Nat) c p = .ok (m * 256 + n, p + 2) :=
  (ck_rb _ _ h).trans ((ck_rb _ _ h').trans rfl)
theorem ck_map {α β : Type} (g : α → β) (x : Jvm.ClassFile.Decoder α) {c : ByteArray} {p q : Nat} {a : α} (h : x c p = .ok (a, q)) : (g <$> x) c p = .ok (g a, q) := by
  have e : (g <$> x) c p = Except.bind (x c p) (fun y => .ok (g y.1, y.2)) := rfl
  rw [e, h]; rfl
theorem ck_dec {c : ByteArray} {p n : Nat} {i : Jvm.ClassFile.Instr} (h : (Jvm.ClassFile.Decoder.instr p) c p = .ok (i, p + n)) : decode c p = .ok (i, n) := by
  have e : decode c p = Except.bind ((Jvm.ClassFile.Decoder.instr p) c p) (fun y => .ok (y.1, y.2 - p)) := rfl
  rw [e, h]
  show Except.ok (i, p + n - p) = _
  rw [Nat.add_sub_cancel_left]
theorem ck1_u {c : ByteArray} {p o : Nat} (h : ck1 c p o = true) : (Jvm.ClassFile.Reader.u1 : Jvm.ClassFile.Decoder Nat) c p = .ok (o, p + 1) := by
  unfold ck1 at h
  split at h
  · rename_i a t e
    rw [← Nat.eq_of_beq_eq_true h]; exact ck_u1 (ck_dr e).1
  · cases h
theorem ck2_u {c : ByteArray} {p o n : Nat} (h : ck2 c p o n = true) : (Jvm.ClassFile.Reader.u1 : Jvm.ClassFile.Decoder Nat) c p = .ok (o, p + 1) ∧ (Jvm.ClassFile.Reader.u1 : Jvm.ClassFile.Decoder Nat) c (p + 1) = .ok (n, p + 2) := by
  unfold ck2 at h
  split at h
  · rename_i a b t e
    obtain ⟨h1, h2⟩ := Bool.and_eq_true_iff.mp h
    rw [← Nat.eq_of_beq_eq_true h1, ← Nat.eq_of_beq_eq_true h2]
    exact ⟨ck_u1 (ck_dr e).1, ck_u1 (ck_dr (ck_dr e).2).1⟩
  · cases h
theorem ck2s_u {c : ByteArray} {p o : Nat} {z : Int} (h : ck2s c p o z = true) : (Jvm.ClassFile.Reader.u1 : Jvm.ClassFile.Decoder Nat) c p = .ok (o, p + 1) ∧ (Jvm.ClassFile.Reader.s1 : Jvm.ClassFile.Decoder Int) c (p + 1) = .ok (z, p + 2) := by
  unfold ck2s at h
  split at h
  · rename_i a b t e
    obtain ⟨h1, h2⟩ := Bool.and_eq_true_iff.mp h
    rw [← Nat.eq_of_beq_eq_true h1, ← of_decide_eq_true h2]
    exact ⟨ck_u1 (ck_dr e).1, ck_map _ _ (ck_u1 (ck_dr (ck_dr e).2).1)⟩
  · cases h
theorem ck3_u {c : ByteArray} {p o n : Nat} (h : ck3 c p o n = true) : (Jvm.ClassFile.Reader.u1 : Jvm.ClassFile.Decoder Nat) c p = .ok (o, p + 1) ∧ (Jvm.ClassFile.Reader.u2 : Jvm.ClassFile.Decoder Nat) c (p + 1) = .ok (n, p + 3) := by
  unfold ck3 at h
  split at h
  · rename_i a b d t e
    obtain ⟨h1, h2⟩ := Bool.and_eq_true_iff.mp h
    rw [← Nat.eq_of_beq_eq_true h1, ← Nat.eq_of_beq_eq_true h2]
    exact ⟨ck_u1 (ck_dr e).1, ck_u2 (ck_u1 (ck_dr (ck_dr e).2).1) (ck_u1 (ck_dr (ck_dr (ck_dr e).2).2).1)⟩
  · cases h
theorem ck3s_u {c : ByteArray} {p o : Nat} {z : Int} (h : ck3s c p o z = true) : (Jvm.ClassFile.Reader.u1 : Jvm.ClassFile.Decoder Nat) c p = .ok (o, p + 1) ∧ (Jvm.ClassFile.Reader.s2 : Jvm.ClassFile.Decoder Int) c (p + 1) = .ok (z, p + 3) := by
  unfold ck3s at h
  split at h
  · rename_i a b d t e
    obtain ⟨h1, h2⟩ := Bool.and_eq_true_iff.mp h
    rw [← Nat.eq_of_beq_eq_true h1, ← of_decide_eq_true h2]
    exact ⟨ck_u1 (ck_dr e).1, ck_map _ _ (ck_u2 (ck_u1 (ck_dr (ck_dr e).2).1) (ck_u1 (ck_dr (ck_dr (ck_dr e).2).2).1))⟩
  · cases h
theorem ck3i_u {c : ByteArray} {p o n : Nat} {z : Int} (h : ck3i c p o n z = true) : (Jvm.ClassFile.Reader.u1 : Jvm.ClassFile.Decoder Nat) c p = .ok (o, p + 1) ∧ (Jvm.ClassFile.Reader.u1 : Jvm.ClassFile.Decoder Nat) c (p + 1) = .ok (n, p + 2) ∧ (Jvm.ClassFile.Reader.s1 : Jvm.ClassFile.Decoder Int) c (p + 2) = .ok (z, p + 3) := by
  unfold ck3i at h
  split at h
  · rename_i a b d t e
    obtain ⟨h1, h2⟩ := Bool.and_eq_true_iff.mp h
    obtain ⟨h2, h3⟩ := Bool.and_eq_true_iff.mp h2
    rw [← Nat.eq_of_beq_eq_true h1, ← Nat.eq_of_beq_eq_true h2, ← of_decide_eq_true h3]
    exact ⟨ck_u1 (ck_dr e).1, ck_u1 (ck_dr (ck_dr e).2).1, ck_map _ _ (ck_u1 (ck_dr (ck_dr (ck_dr e).2).2).1)⟩
  · cases h
theorem ck_sp {c : ByteArray} {q r p : Nat} {S : List UInt8} (h : c.data.toList.drop q = S) (hp : q + r = p) : c.data.toList.drop p = S.drop r := by
  rw [← hp, ← h, List.drop_drop]
theorem ck_nx {L S S' : List UInt8} {q q' : Nat} (h : L.drop q = S) (h' : S.drop 64 = S') (hq : q + 64 = q') : L.drop q' = S' := by
  rw [← hq, ← h', ← h, List.drop_drop]
def ck1L (L : List UInt8) (p o : Nat) : Bool := match L.drop p with | a :: _ => Nat.beq a.toNat o | _ => false
theorem ck1_s {c : ByteArray} {p q r : Nat} {S : List UInt8} {o : Nat} (h : c.data.toList.drop q = S) (hp : q + r = p) (k : ck1L S r o = true) : ck1 c p o = true := by
  unfold ck1
  rw [ck_sp h hp]
  exact k
def ck2L (L : List UInt8) (p o n : Nat) : Bool := match L.drop p with | a :: b :: _ => Nat.beq a.toNat o && Nat.beq b.toNat n | _ => false
theorem ck2_s {c : ByteArray} {p q r : Nat} {S : List UInt8} {o : Nat} {n : Nat} (h : c.data.toList.drop q = S) (hp : q + r = p) (k : ck2L S r o n = true) : ck2 c p o n = true := by
  unfold ck2
  rw [ck_sp h hp]
  exact k
def ck2sL (L : List UInt8) (p o : Nat) (z : Int) : Bool := match L.drop p with | a :: b :: _ => Nat.beq a.toNat o && decide (Jvm.ClassFile.Reader.signed 8 b.toNat = z) | _ => false
theorem ck2s_s {c : ByteArray} {p q r : Nat} {S : List UInt8} {o : Nat} {z : Int} (h : c.data.toList.drop q = S) (hp : q + r = p) (k : ck2sL S r o z = true) : ck2s c p o z = true := by
  unfold ck2s
  rw [ck_sp h hp]
  exact k
def ck3L (L : List UInt8) (p o n : Nat) : Bool := match L.drop p with | a :: b :: d :: _ => Nat.beq a.toNat o && Nat.beq (b.toNat * 256 + d.toNat) n | _ => false
theorem ck3_s {c : ByteArray} {p q r : Nat} {S : List UInt8} {o : Nat} {n : Nat} (h : c.data.toList.drop q = S) (hp : q + r = p) (k : ck3L S r o n = true) : ck3 c p o n = true := by
  unfold ck3
  rw [ck_sp h hp]
  exact k
def ck3sL (L : List UInt8) (p o : Nat) (z : Int) : Bool := match L.drop p with | a :: b :: d :: _ => Nat.beq a.toNat o && decide (Jvm.ClassFile.Reader.signed 16 (b.toNat * 256 + d.toNat) = z) | _ => false
theorem ck3s_s {c : ByteArray} {p q r : Nat} {S : List UInt8} {o : Nat} {z : Int} (h : c.data.toList.drop q = S) (hp : q + r = p) (k : ck3sL S r o z = true) : ck3s c p o z = true := by
  unfold ck3s
  rw [ck_sp h hp]
  exact k
def ck3iL (L : List UInt8) (p o n : Nat) (z : Int) : Bool := match L.drop p with | a :: b :: d :: _ => Nat.beq a.toNat o && (Nat.beq b.toNat n && decide (Jvm.ClassFile.Reader.signed 8 d.toNat = z)) | _ => false
theorem ck3i_s {c : ByteArray} {p q r : Nat} {S : List UInt8} {o : Nat} {n : Nat} {z : Int} (h : c.data.toList.drop q = S) (hp : q + r = p) (k : ck3iL S r o n z = true) : ck3i c p o n z = true := by
  unfold ck3i
  rw [ck_sp h hp]
  exact k
theorem dk_2 {c : ByteArray} {p : Nat} (h : ck1 c p 2 = true) : decode c p = .ok (.iconst (-1), 1) := ck_dec ((ck_rb _ _ (ck1_u h)).trans rfl)
theorem dk_3 {c : ByteArray} {p : Nat} (h : ck1 c p 3 = true) : decode c p = .ok (.iconst 0, 1) := ck_dec ((ck_rb _ _ (ck1_u h)).trans rfl)
theorem dk_4 {c : ByteArray} {p : Nat} (h : ck1 c p 4 = true) : decode c p = .ok (.iconst 1, 1) := ck_dec ((ck_rb _ _ (ck1_u h)).trans rfl)
theorem dk_5 {c : ByteArray} {p : Nat} (h : ck1 c p 5 = true) : decode c p = .ok (.iconst 2, 1) := ck_dec ((ck_rb _ _ (ck1_u h)).trans rfl)
theorem dk_6 {c : ByteArray} {p : Nat} (h : ck1 c p 6 = true) : decode c p = .ok (.iconst 3, 1) := ck_dec ((ck_rb _ _ (ck1_u h)).trans rfl)
theorem dk_7 {c : ByteArray} {p : Nat} (h : ck1 c p 7 = true) : decode c p = .ok (.iconst 4, 1) := ck_dec ((ck_rb _ _ (ck1_u h)).trans rfl)
theorem dk_8 {c : ByteArray} {p : Nat} (h : ck1 c p 8 = true) : decode c p = .ok (.iconst 5, 1) := ck_dec ((ck_rb _ _ (ck1_u h)).trans rfl)
theorem dk_9 {c : ByteArray} {p : Nat} (h : ck1 c p 9 = true) : decode c p = .ok (.lconst 0, 1) := ck_dec ((ck_rb _ _ (ck1_u h)).trans rfl)
theorem dk_16 {c : ByteArray} {p : Nat} {z : Int} (h : ck2s c p 16 z = true) : decode c p = .ok (.bipush z, 2) := ck_dec ((ck_rb _ _ (ck2s_u h).1).trans ((ck_rb Jvm.ClassFile.Reader.s1 (fun x => pure (Jvm.ClassFile.Instr.bipush x)) (ck2s_u h).2).trans rfl))
theorem dk_17 {c : ByteArray} {p : Nat} {z : Int} (h : ck3s c p 17 z = true) : decode c p = .ok (.sipush z, 3) := ck_dec ((ck_rb _ _ (ck3s_u h).1).trans ((ck_rb Jvm.ClassFile.Reader.s2 (fun x => pure (Jvm.ClassFile.Instr.sipush x)) (ck3s_u h).2).trans rfl))
theorem dk_18 {c : ByteArray} {p : Nat} {n : Nat} (h : ck2 c p 18 n = true) : decode c p = .ok (.ldc n, 2) := ck_dec ((ck_rb _ _ (ck2_u h).1).trans ((ck_rb Jvm.ClassFile.Reader.u1 (fun x => pure (Jvm.ClassFile.Instr.ldc x)) (ck2_u h).2).trans rfl))
theorem dk_19 {c : ByteArray} {p : Nat} {n : Nat} (h : ck3 c p 19 n = true) : decode c p = .ok (.ldc_w n, 3) := ck_dec ((ck_rb _ _ (ck3_u h).1).trans ((ck_rb Jvm.ClassFile.Reader.u2 (fun x => pure (Jvm.ClassFile.Instr.ldc_w x)) (ck3_u h).2).trans rfl))
theorem dk_20 {c : ByteArray} {p : Nat} {n : Nat} (h : ck3 c p 20 n = true) : decode c p = .ok (.ldc2_w n, 3) := ck_dec ((ck_rb _ _ (ck3_u h).1).trans ((ck_rb Jvm.ClassFile.Reader.u2 (fun x => pure (Jvm.ClassFile.Instr.ldc2_w x)) (ck3_u h).2).trans rfl))
theorem dk_21 {c : ByteArray} {p : Nat} {n : Nat} (h : ck2 c p 21 n = true) : decode c p = .ok (.iload n, 2) := ck_dec ((ck_rb _ _ (ck2_u h).1).trans ((ck_rb Jvm.ClassFile.Reader.u1 (fun x => pure (Jvm.ClassFile.Instr.iload x)) (ck2_u h).2).trans rfl))
theorem dk_26 {c : ByteArray} {p : Nat} (h : ck1 c p 26 = true) : decode c p = .ok (.iload_n 0, 1) := ck_dec ((ck_rb _ _ (ck1_u h)).trans rfl)
theorem dk_27 {c : ByteArray} {p : Nat} (h : ck1 c p 27 = true) : decode c p = .ok (.iload_n 1, 1) := ck_dec ((ck_rb _ _ (ck1_u h)).trans rfl)
theorem dk_28 {c : ByteArray} {p : Nat} (h : ck1 c p 28 = true) : decode c p = .ok (.iload_n 2, 1) := ck_dec ((ck_rb _ _ (ck1_u h)).trans rfl)
theorem dk_29 {c : ByteArray} {p : Nat} (h : ck1 c p 29 = true) : decode c p = .ok (.iload_n 3, 1) := ck_dec ((ck_rb _ _ (ck1_u h)).trans rfl)
theorem dk_31 {c : ByteArray} {p : Nat} (h : ck1 c p 31 = true) : decode c p = .ok (.lload_n 1, 1) := ck_dec ((ck_rb _ _ (ck1_u h)).trans rfl)
theorem dk_42 {c : ByteArray} {p : Nat} (h : ck1 c p 42 = true) : decode c p = .ok (.aload_n 0, 1) := ck_dec ((ck_rb _ _ (ck1_u h)).trans rfl)
theorem dk_43 {c : ByteArray} {p : Nat} (h : ck1 c p 43 = true) : decode c p = .ok (.aload_n 1, 1) := ck_dec ((ck_rb _ _ (ck1_u h)).trans rfl)
theorem dk_44 {c : ByteArray} {p : Nat} (h : ck1 c p 44 = true) : decode c p = .ok (.aload_n 2, 1) := ck_dec ((ck_rb _ _ (ck1_u h)).trans rfl)
theorem dk_46 {c : ByteArray} {p : Nat} (h : ck1 c p 46 = true) : decode c p = .ok (.iaload, 1) := ck_dec ((ck_rb _ _ (ck1_u h)).trans rfl)
theorem dk_47 {c : ByteArray} {p : Nat} (h : ck1 c p 47 = true) : decode c p = .ok (.laload, 1) := ck_dec ((ck_rb _ _ (ck1_u h)).trans rfl)
theorem dk_51 {c : ByteArray} {p : Nat} (h : ck1 c p 51 = true) : decode c p = .ok (.baload, 1) := ck_dec ((ck_rb _ _ (ck1_u h)).trans rfl)
theorem dk_54 {c : ByteArray} {p : Nat} {n : Nat} (h : ck2 c p 54 n = true) : decode c p = .ok (.istore n, 2) := ck_dec ((ck_rb _ _ (ck2_u h).1).trans ((ck_rb Jvm.ClassFile.Reader.u1 (fun x => pure (Jvm.ClassFile.Instr.istore x)) (ck2_u h).2).trans rfl))
theorem dk_59 {c : ByteArray} {p : Nat} (h : ck1 c p 59 = true) : decode c p = .ok (.istore_n 0, 1) := ck_dec ((ck_rb _ _ (ck1_u h)).trans rfl)
theorem dk_60 {c : ByteArray} {p : Nat} (h : ck1 c p 60 = true) : decode c p = .ok (.istore_n 1, 1) := ck_dec ((ck_rb _ _ (ck1_u h)).trans rfl)
theorem dk_61 {c : ByteArray} {p : Nat} (h : ck1 c p 61 = true) : decode c p = .ok (.istore_n 2, 1) := ck_dec ((ck_rb _ _ (ck1_u h)).trans rfl)
theorem dk_62 {c : ByteArray} {p : Nat} (h : ck1 c p 62 = true) : decode c p = .ok (.istore_n 3, 1) := ck_dec ((ck_rb _ _ (ck1_u h)).trans rfl)
theorem dk_76 {c : ByteArray} {p : Nat} (h : ck1 c p 76 = true) : decode c p = .ok (.astore_n 1, 1) := ck_dec ((ck_rb _ _ (ck1_u h)).trans rfl)
theorem dk_77 {c : ByteArray} {p : Nat} (h : ck1 c p 77 = true) : decode c p = .ok (.astore_n 2, 1) := ck_dec ((ck_rb _ _ (ck1_u h)).trans rfl)
theorem dk_79 {c : ByteArray} {p : Nat} (h : ck1 c p 79 = true) : decode c p = .ok (.iastore, 1) := ck_dec ((ck_rb _ _ (ck1_u h)).trans rfl)
theorem dk_80 {c : ByteArray} {p : Nat} (h : ck1 c p 80 = true) : decode c p = .ok (.lastore, 1) := ck_dec ((ck_rb _ _ (ck1_u h)).trans rfl)
theorem dk_84 {c : ByteArray} {p : Nat} (h : ck1 c p 84 = true) : decode c p = .ok (.bastore, 1) := ck_dec ((ck_rb _ _ (ck1_u h)).trans rfl)
theorem dk_87 {c : ByteArray} {p : Nat} (h : ck1 c p 87 = true) : decode c p = .ok (.pop, 1) := ck_dec ((ck_rb _ _ (ck1_u h)).trans rfl)
theorem dk_89 {c : ByteArray} {p : Nat} (h : ck1 c p 89 = true) : decode c p = .ok (.dup, 1) := ck_dec ((ck_rb _ _ (ck1_u h)).trans rfl)
theorem dk_92 {c : ByteArray} {p : Nat} (h : ck1 c p 92 = true) : decode c p = .ok (.dup2, 1) := ck_dec ((ck_rb _ _ (ck1_u h)).trans rfl)
theorem dk_96 {c : ByteArray} {p : Nat} (h : ck1 c p 96 = true) : decode c p = .ok (.iadd, 1) := ck_dec ((ck_rb _ _ (ck1_u h)).trans rfl)
theorem dk_100 {c : ByteArray} {p : Nat} (h : ck1 c p 100 = true) : decode c p = .ok (.isub, 1) := ck_dec ((ck_rb _ _ (ck1_u h)).trans rfl)
theorem dk_104 {c : ByteArray} {p : Nat} (h : ck1 c p 104 = true) : decode c p = .ok (.imul, 1) := ck_dec ((ck_rb _ _ (ck1_u h)).trans rfl)
theorem dk_108 {c : ByteArray} {p : Nat} (h : ck1 c p 108 = true) : decode c p = .ok (.idiv, 1) := ck_dec ((ck_rb _ _ (ck1_u h)).trans rfl)
theorem dk_112 {c : ByteArray} {p : Nat} (h : ck1 c p 112 = true) : decode c p = .ok (.irem, 1) := ck_dec ((ck_rb _ _ (ck1_u h)).trans rfl)
theorem dk_116 {c : ByteArray} {p : Nat} (h : ck1 c p 116 = true) : decode c p = .ok (.ineg, 1) := ck_dec ((ck_rb _ _ (ck1_u h)).trans rfl)
theorem dk_120 {c : ByteArray} {p : Nat} (h : ck1 c p 120 = true) : decode c p = .ok (.ishl, 1) := ck_dec ((ck_rb _ _ (ck1_u h)).trans rfl)
theorem dk_121 {c : ByteArray} {p : Nat} (h : ck1 c p 121 = true) : decode c p = .ok (.lshl, 1) := ck_dec ((ck_rb _ _ (ck1_u h)).trans rfl)
theorem dk_122 {c : ByteArray} {p : Nat} (h : ck1 c p 122 = true) : decode c p = .ok (.ishr, 1) := ck_dec ((ck_rb _ _ (ck1_u h)).trans rfl)
theorem dk_124 {c : ByteArray} {p : Nat} (h : ck1 c p 124 = true) : decode c p = .ok (.iushr, 1) := ck_dec ((ck_rb _ _ (ck1_u h)).trans rfl)
theorem dk_126 {c : ByteArray} {p : Nat} (h : ck1 c p 126 = true) : decode c p = .ok (.iand, 1) := ck_dec ((ck_rb _ _ (ck1_u h)).trans rfl)
theorem dk_128 {c : ByteArray} {p : Nat} (h : ck1 c p 128 = true) : decode c p = .ok (.ior, 1) := ck_dec ((ck_rb _ _ (ck1_u h)).trans rfl)
theorem dk_129 {c : ByteArray} {p : Nat} (h : ck1 c p 129 = true) : decode c p = .ok (.lor, 1) := ck_dec ((ck_rb _ _ (ck1_u h)).trans rfl)
theorem dk_130 {c : ByteArray} {p : Nat} (h : ck1 c p 130 = true) : decode c p = .ok (.ixor, 1) := ck_dec ((ck_rb _ _ (ck1_u h)).trans rfl)
theorem dk_132 {c : ByteArray} {p : Nat} {n : Nat} {z : Int} (h : ck3i c p 132 n z = true) : decode c p = .ok (.iinc n z, 3) := ck_dec ((ck_rb _ _ (ck3i_u h).1).trans ((ck_rb Jvm.ClassFile.Reader.u1 (fun x => Jvm.ClassFile.Reader.s1 >>= fun y => pure (Jvm.ClassFile.Instr.iinc x y)) (ck3i_u h).2.1).trans ((ck_rb Jvm.ClassFile.Reader.s1 (fun y => pure (Jvm.ClassFile.Instr.iinc n y)) (ck3i_u h).2.2).trans rfl)))
theorem dk_133 {c : ByteArray} {p : Nat} (h : ck1 c p 133 = true) : decode c p = .ok (.i2l, 1) := ck_dec ((ck_rb _ _ (ck1_u h)).trans rfl)
theorem dk_145 {c : ByteArray} {p : Nat} (h : ck1 c p 145 = true) : decode c p = .ok (.i2b, 1) := ck_dec ((ck_rb _ _ (ck1_u h)).trans rfl)
theorem dk_146 {c : ByteArray} {p : Nat} (h : ck1 c p 146 = true) : decode c p = .ok (.i2c, 1) := ck_dec ((ck_rb _ _ (ck1_u h)).trans rfl)
theorem dk_148 {c : ByteArray} {p : Nat} (h : ck1 c p 148 = true) : decode c p = .ok (.lcmp, 1) := ck_dec ((ck_rb _ _ (ck1_u h)).trans rfl)
theorem dk_153 {c : ByteArray} {p : Nat} {z : Int} (h : ck3s c p 153 z = true) : decode c p = .ok (.ifCond .eq z, 3) := ck_dec ((ck_rb _ _ (ck3s_u h).1).trans ((ck_rb Jvm.ClassFile.Reader.s2 (fun x => pure (Jvm.ClassFile.Instr.ifCond .eq x)) (ck3s_u h).2).trans rfl))
theorem dk_154 {c : ByteArray} {p : Nat} {z : Int} (h : ck3s c p 154 z = true) : decode c p = .ok (.ifCond .ne z, 3) := ck_dec ((ck_rb _ _ (ck3s_u h).1).trans ((ck_rb Jvm.ClassFile.Reader.s2 (fun x => pure (Jvm.ClassFile.Instr.ifCond .ne x)) (ck3s_u h).2).trans rfl))
theorem dk_155 {c : ByteArray} {p : Nat} {z : Int} (h : ck3s c p 155 z = true) : decode c p = .ok (.ifCond .lt z, 3) := ck_dec ((ck_rb _ _ (ck3s_u h).1).trans ((ck_rb Jvm.ClassFile.Reader.s2 (fun x => pure (Jvm.ClassFile.Instr.ifCond .lt x)) (ck3s_u h).2).trans rfl))
theorem dk_156 {c : ByteArray} {p : Nat} {z : Int} (h : ck3s c p 156 z = true) : decode c p = .ok (.ifCond .ge z, 3) := ck_dec ((ck_rb _ _ (ck3s_u h).1).trans ((ck_rb Jvm.ClassFile.Reader.s2 (fun x => pure (Jvm.ClassFile.Instr.ifCond .ge x)) (ck3s_u h).2).trans rfl))
theorem dk_157 {c : ByteArray} {p : Nat} {z : Int} (h : ck3s c p 157 z = true) : decode c p = .ok (.ifCond .gt z, 3) := ck_dec ((ck_rb _ _ (ck3s_u h).1).trans ((ck_rb Jvm.ClassFile.Reader.s2 (fun x => pure (Jvm.ClassFile.Instr.ifCond .gt x)) (ck3s_u h).2).trans rfl))
theorem dk_158 {c : ByteArray} {p : Nat} {z : Int} (h : ck3s c p 158 z = true) : decode c p = .ok (.ifCond .le z, 3) := ck_dec ((ck_rb _ _ (ck3s_u h).1).trans ((ck_rb Jvm.ClassFile.Reader.s2 (fun x => pure (Jvm.ClassFile.Instr.ifCond .le x)) (ck3s_u h).2).trans rfl))
theorem dk_159 {c : ByteArray} {p : Nat} {z : Int} (h : ck3s c p 159 z = true) : decode c p = .ok (.if_icmp .eq z, 3) := ck_dec ((ck_rb _ _ (ck3s_u h).1).trans ((ck_rb Jvm.ClassFile.Reader.s2 (fun x => pure (Jvm.ClassFile.Instr.if_icmp .eq x)) (ck3s_u h).2).trans rfl))
theorem dk_160 {c : ByteArray} {p : Nat} {z : Int} (h : ck3s c p 160 z = true) : decode c p = .ok (.if_icmp .ne z, 3) := ck_dec ((ck_rb _ _ (ck3s_u h).1).trans ((ck_rb Jvm.ClassFile.Reader.s2 (fun x => pure (Jvm.ClassFile.Instr.if_icmp .ne x)) (ck3s_u h).2).trans rfl))
theorem dk_161 {c : ByteArray} {p : Nat} {z : Int} (h : ck3s c p 161 z = true) : decode c p = .ok (.if_icmp .lt z, 3) := ck_dec ((ck_rb _ _ (ck3s_u h).1).trans ((ck_rb Jvm.ClassFile.Reader.s2 (fun x => pure (Jvm.ClassFile.Instr.if_icmp .lt x)) (ck3s_u h).2).trans rfl))
theorem dk_162 {c : ByteArray} {p : Nat} {z : Int} (h : ck3s c p 162 z = true) : decode c p = .ok (.if_icmp .ge z, 3) := ck_dec ((ck_rb _ _ (ck3s_u h).1).trans ((ck_rb Jvm.ClassFile.Reader.s2 (fun x => pure (Jvm.ClassFile.Instr.if_icmp .ge x)) (ck3s_u h).2).trans rfl))
theorem dk_163 {c : ByteArray} {p : Nat} {z : Int} (h : ck3s c p 163 z = true) : decode c p = .ok (.if_icmp .gt z, 3) := ck_dec ((ck_rb _ _ (ck3s_u h).1).trans ((ck_rb Jvm.ClassFile.Reader.s2 (fun x => pure (Jvm.ClassFile.Instr.if_icmp .gt x)) (ck3s_u h).2).trans rfl))
theorem dk_164 {c : ByteArray} {p : Nat} {z : Int} (h : ck3s c p 164 z = true) : decode c p = .ok (.if_icmp .le z, 3) := ck_dec ((ck_rb _ _ (ck3s_u h).1).trans ((ck_rb Jvm.ClassFile.Reader.s2 (fun x => pure (Jvm.ClassFile.Instr.if_icmp .le x)) (ck3s_u h).2).trans rfl))
theorem dk_167 {c : ByteArray} {p : Nat} {z : Int} (h : ck3s c p 167 z = true) : decode c p = .ok (.goto z, 3) := ck_dec ((ck_rb _ _ (ck3s_u h).1).trans ((ck_rb Jvm.ClassFile.Reader.s2 (fun x => pure (Jvm.ClassFile.Instr.goto x)) (ck3s_u h).2).trans rfl))
theorem dk_172 {c : ByteArray} {p : Nat} (h : ck1 c p 172 = true) : decode c p = .ok (.ireturn, 1) := ck_dec ((ck_rb _ _ (ck1_u h)).trans rfl)
theorem dk_177 {c : ByteArray} {p : Nat} (h : ck1 c p 177 = true) : decode c p = .ok (.return_, 1) := ck_dec ((ck_rb _ _ (ck1_u h)).trans rfl)
theorem dk_180 {c : ByteArray} {p : Nat} {n : Nat} (h : ck3 c p 180 n = true) : decode c p = .ok (.getfield n, 3) := ck_dec ((ck_rb _ _ (ck3_u h).1).trans ((ck_rb Jvm.ClassFile.Reader.u2 (fun x => pure (Jvm.ClassFile.Instr.getfield x)) (ck3_u h).2).trans rfl))
theorem dk_181 {c : ByteArray} {p : Nat} {n : Nat} (h : ck3 c p 181 n = true) : decode c p = .ok (.putfield n, 3) := ck_dec ((ck_rb _ _ (ck3_u h).1).trans ((ck_rb Jvm.ClassFile.Reader.u2 (fun x => pure (Jvm.ClassFile.Instr.putfield x)) (ck3_u h).2).trans rfl))
theorem dk_182 {c : ByteArray} {p : Nat} {n : Nat} (h : ck3 c p 182 n = true) : decode c p = .ok (.invokevirtual n, 3) := ck_dec ((ck_rb _ _ (ck3_u h).1).trans ((ck_rb Jvm.ClassFile.Reader.u2 (fun x => pure (Jvm.ClassFile.Instr.invokevirtual x)) (ck3_u h).2).trans rfl))
theorem dk_183 {c : ByteArray} {p : Nat} {n : Nat} (h : ck3 c p 183 n = true) : decode c p = .ok (.invokespecial n, 3) := ck_dec ((ck_rb _ _ (ck3_u h).1).trans ((ck_rb Jvm.ClassFile.Reader.u2 (fun x => pure (Jvm.ClassFile.Instr.invokespecial x)) (ck3_u h).2).trans rfl))
theorem dk_184 {c : ByteArray} {p : Nat} {n : Nat} (h : ck3 c p 184 n = true) : decode c p = .ok (.invokestatic n, 3) := ck_dec ((ck_rb _ _ (ck3_u h).1).trans ((ck_rb Jvm.ClassFile.Reader.u2 (fun x => pure (Jvm.ClassFile.Instr.invokestatic x)) (ck3_u h).2).trans rfl))
theorem dk_187 {c : ByteArray} {p : Nat} {n : Nat} (h : ck3 c p 187 n = true) : decode c p = .ok (.new n, 3) := ck_dec ((ck_rb _ _ (ck3_u h).1).trans ((ck_rb Jvm.ClassFile.Reader.u2 (fun x => pure (Jvm.ClassFile.Instr.new x)) (ck3_u h).2).trans rfl))
theorem dk_190 {c : ByteArray} {p : Nat} (h : ck1 c p 190 = true) : decode c p = .ok (.arraylength, 1) := ck_dec ((ck_rb _ _ (ck1_u h)).trans rfl)
