def upd2 (f : Nat → Nat → Int32) (q : Nat) (g : Nat → Int32) : Nat → Nat → Int32 := fun j => if j = q then g else f j
abbrev sLEN : List Nat := [11, 102]
abbrev sBYT : List (List Int32) := [[59, 40, 41, 60, 62, 61, 43, 45, 42, 47, 37], [109, 97, 110, 32, 99, 111, 97, 116, 32, 105, 108, 108, 32, 101, 97, 115, 121, 32, 98, 111, 108, 116, 32, 108, 105, 107, 101, 32, 114, 97, 105, 110, 32, 100, 114, 97, 119, 32, 116, 97, 108, 108, 32, 119, 105, 100, 101, 32, 103, 114, 111, 119, 115, 32, 115, 101, 97, 109, 32, 111, 114, 32, 97, 110, 100, 32, 110, 111, 116, 32, 116, 105, 103, 104, 116, 32, 108, 111, 111, 115, 101, 32, 115, 104, 111, 114, 116, 32, 108, 111, 110, 103, 32, 119, 111, 114, 110, 32, 100, 97, 121, 32]]
def stk {α : Type} : Nat → α → α
  | 0, x => x
  | _ + 1, x => x
theorem stk_eq {α : Type} (NF : Nat) (x : α) : stk NF x = x := by cases NF <;> rfl
theorem ite11 {α : Type} {a b : α} : (if (1 : Int32) = 1 then a else b) = a := if_pos rfl
theorem ite01 {α : Type} {a b : α} : (if (0 : Int32) = 1 then a else b) = b := if_neg (by decide)
theorem nlit {a : Nat} (b : Nat) (L : Int32) (hL : L = nI b) (ha : a < 2 ^ 31) (hb : b < 2 ^ 31) (h : ¬ a = b) : ¬ nI a = L := by
  rw [hL]
  exact fun z => h ((nI_eq ha hb).mp z)
theorem upd_comm {v : Nat → Int32} {j k : Nat} {x y : Int32} (h : j ≠ k) : upd (upd v j x) k y = upd (upd v k y) j x := by
  funext i
  unfold upd
  by_cases e1 : i = k
  · rw [if_pos e1, if_neg (fun z => h (z.symm.trans e1)), if_pos e1]
  · rw [if_neg e1]
    by_cases e2 : i = j
    · rw [if_pos e2, if_pos e2]
    · rw [if_neg e2, if_neg e2, if_neg e1]
def lx_cn (P : Nat → Bool) (c : Nat → Nat) (n : Nat) : Nat → Nat → Nat
  | 0, p => p
  | k + 1, p => if p < n ∧ P (c p) = true then lx_cn P c n k (p + 1) else p
def lx_c (P : Nat → Bool) (c : Nat → Nat) (n p : Nat) : Nat := lx_cn P c n (n - p) p
def lx_l (c : Nat) : Bool := decide (97 ≤ c) && decide (c ≤ 122)
def lx_d (c : Nat) : Bool := decide (48 ≤ c) && decide (c ≤ 57)
def lx_b (c : Nat) : Bool := c == 32 || c == 10
def lx_s (c : Nat) : Bool := [59, 40, 41, 60, 62, 61, 43, 45, 42, 47, 37].contains c
def lx_W : List (List Nat) := [[109, 97, 110], [99, 111, 97, 116], [105, 108, 108], [101, 97, 115, 121], [98, 111, 108, 116], [108, 105, 107, 101], [114, 97, 105, 110], [100, 114, 97, 119], [116, 97, 108, 108], [119, 105, 100, 101], [103, 114, 111, 119, 115], [115, 101, 97, 109], [111, 114], [97, 110, 100], [110, 111, 116], [116, 105, 103, 104, 116], [108, 111, 111, 115, 101], [115, 104, 111, 114, 116], [108, 111, 110, 103], [119, 111, 114, 110], [100, 97, 121]]
def lx_k (c : Nat → Nat) (p len : Nat) : List (List Nat) → Nat → Nat
  | [], _ => 3
  | w :: ws, k => if len = w.length ∧ (∀ i, i < w.length → c (p + i) = w.getD i 0) then k else lx_k c p len ws (k + 1)
def tP (c : Nat → Nat) (n b : Nat) : Nat := lx_c lx_b c n b
def tE (c : Nat → Nat) (n p : Nat) : Nat := if n ≤ p then p else if lx_l (c p) = true then lx_c lx_l c n p else if lx_d (c p) = true then lx_c lx_d c n p else p + 1
def tK (c : Nat → Nat) (n p : Nat) : Nat := if n ≤ p then 0 else if lx_l (c p) = true then (if 8 < tE c n p - p then 1 else lx_k c p (tE c n p - p) lx_W 101) else if lx_d (c p) = true then (if 4 < tE c n p - p ∨ (tE c n p < n ∧ lx_l (c (tE c n p)) = true) then 1 else 2) else if lx_s (c p) = true then c p else 1
def nxF (c : Nat → Nat) : Nat → Nat → Int32 → Int32
  | 0, _, x => x
  | k + 1, p, x => nxF c k (p + 1) (x * 10 + sb_b (c p) - 48)
def wvF (c : Nat → Nat) : Nat → Nat → Int64 → Int64
  | 0, _, x => x
  | k + 1, p, x => wvF c k (p + 1) ((x <<< ((8 : Int32).toInt64 &&& 63)) ||| (nI (c p)).toInt64)
def tN (c : Nat → Nat) (n p : Nat) : Int32 := nxF c (tE c n p - p) p 0
def tW (c : Nat → Nat) (n p : Nat) : Int64 := wvF c (tE c n p - p) p 0
def tk_b (c : Nat → Nat) (n : Nat) : Nat → Nat
  | 0 => 0
  | i + 1 => tE c n (tP c n (tk_b c n i))
def tk_p (c : Nat → Nat) (n i : Nat) : Nat := tP c n (tk_b c n i)
def tk_k (c : Nat → Nat) (n i : Nat) : Nat := tK c n (tk_p c n i)
def tk_n (c : Nat → Nat) (n i : Nat) : Int32 := tN c n (tk_p c n i)
def tk_w (c : Nat → Nat) (n i : Nat) : Int64 := tW c n (tk_p c n i)
def KV (M : List Nat) (a b : Nat → Int32) : Prop := ∀ k, M.contains k = false → a k = b k
def KF (M : List Nat) (a b : Nat → Nat → Int32) : Prop := ∀ k, M.contains k = false → a k = b k
theorem kx_sub {M M1 : List Nat} (hs : M1.all (fun k => M.contains k) = true) {k : Nat} (hk : M.contains k = false) : M1.contains k = false := by
  cases hq : M1.contains k with
  | false => rfl
  | true =>
    have m : k ∈ M1 := by simpa using hq
    have q : M.contains k = true := List.all_eq_true.mp hs k m
    rw [q] at hk
    exact hk
theorem KV.up {M : List Nat} {a b : Nat → Int32} {j : Nat} {x : Int32} (h : KV M a b) (hj : M.contains j = true) : KV M (upd a j x) b := fun k hk => by
  have e : ¬ k = j := fun z => by rw [z, hj] at hk; cases hk
  exact (show upd a j x k = a k from if_neg e).trans (h k hk)
theorem KF.up {M : List Nat} {a b : Nat → Nat → Int32} {j : Nat} {x : Nat → Int32} (h : KF M a b) (hj : M.contains j = true) : KF M (upd2 a j x) b := fun k hk => by
  have e : ¬ k = j := fun z => by rw [z, hj] at hk; cases hk
  exact (show upd2 a j x k = a k from if_neg e).trans (h k hk)
theorem KV.tr {M M1 : List Nat} {a b c : Nat → Int32} (h1 : KV M1 c a) (h : KV M a b) (hs : M1.all (fun k => M.contains k) = true) : KV M c b := fun k hk => (h1 k (kx_sub hs hk)).trans (h k hk)
theorem KF.tr {M M1 : List Nat} {a b c : Nat → Nat → Int32} (h1 : KF M1 c a) (h : KF M a b) (hs : M1.all (fun k => M.contains k) = true) : KF M c b := fun k hk => (h1 k (kx_sub hs hk)).trans (h k hk)
theorem kx_use {M N : List Nat} (hs : N.all (fun k => !M.contains k) = true) {k : Nat} (hk : N.contains k = true) : M.contains k = false := by
  have m : k ∈ N := by simpa using hk
  have q := List.all_eq_true.mp hs k m
  simpa using q
theorem KV.use {M N : List Nat} {a b : Nat → Int32} (h : KV M a b) (hs : N.all (fun k => !M.contains k) = true) : ∀ k, N.contains k = true → a k = b k := fun k hk => h k (kx_use hs hk)
theorem KF.use {M N : List Nat} {a b : Nat → Nat → Int32} (h : KF M a b) (hs : N.all (fun k => !M.contains k) = true) : ∀ k, N.contains k = true → a k = b k := fun k hk => h k (kx_use hs hk)
