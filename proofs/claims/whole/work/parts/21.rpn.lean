/-! texts as rows of signs (the reference's numbers), told on a stack -/
theorem lit_nI (n : Nat) : (OfNat.ofNat n : Int32) = nI n := rfl
theorem s2_up {A : mA} {k j : Nat} {g : Nat → Int32} {v : Int32} : s2 (va_up A k g) k j v = va_up A k (upd g j v) := by
  funext q
  simp only [s2, va_up_eq]
  by_cases h : q = k
  · subst h; simp [va_up]
  · simp [va_up, h]
theorem up_up {α : Type} {A : Nat → α} {k : Nat} {g h : α} : va_up (va_up A k g) k h = va_up A k h := by
  funext q
  by_cases e : q = k <;> simp [va_up, e]
theorem up_self {α : Type} {A : Nat → α} {k : Nat} : va_up A k (A k) = A := by
  funext q
  by_cases e : q = k <;> simp [va_up, e]
theorem upd_eq {f : Nat → Int32} {k : Nat} {x : Int32} : upd f k x k = x := by simp [upd]
theorem upd_no {f : Nat → Int32} {k j : Nat} {x : Int32} (h : j ≠ k) : upd f k x j = f j := by simp [upd, h]
def yn (c : Prop) [Decidable c] : Int32 := if c then 1 else 0
/-- what a deed between two makes of them -/
def dd (c a b : Int32) : Int32 :=
  if c = -20 then yn (a ≠ 0 ∨ b ≠ 0) else if c = -21 then yn (a ≠ 0 ∧ b ≠ 0) else if c = -23 then yn (a < b) else if c = -24 then yn (a = b) else if c = -25 then a + b else if c = -26 then a - b else a * b
def nmc (k : Nat) : Int32 := -10 - nI k
def bop (c : Int32) : Prop := c = -20 ∨ c = -21 ∨ c = -23 ∨ c = -24 ∨ c = -25 ∨ c = -26 ∨ c = -27
/-- a sign that may stand in a text -/
def VC (c : Int32) : Prop := (∃ n, n < 10000 ∧ c = nI n) ∨ (∃ k, k < 6 ∧ c = nmc k) ∨ c = -22 ∨ c = -28 ∨ bop c
def rst (nv : Nat → Int32) (c : Int32) (s : List Int32) : List Int32 :=
  if 0 ≤ c then c :: s else if -20 < c then nv (-10 - c).toNatClampNeg :: s
  else match s with
    | [] => []
    | a :: r => if c = -22 then yn (a = 0) :: r else if c = -28 then -a :: r else match r with
      | [] => [a]
      | b :: q => dd c b a :: q
def rev (nv : Nat → Int32) (f : Nat → Int32) : Nat → Nat → List Int32 → List Int32
  | _, 0, s => s
  | i, n + 1, s => rev nv f (i + 1) n (rst nv (f i) s)
def rdp (c : Int32) (n : Nat) : Option Nat := if 0 ≤ c ∨ -20 < c then some (n + 1) else if c = -22 ∨ c = -28 then (if n = 0 then none else some n) else if n < 2 then none else some (n - 1)
/-- a row of n signs from i on, begun with m numbers on the stack, can be told and leaves one -/
def rok (f : Nat → Int32) : Nat → Nat → Nat → Prop
  | _, 0, m => m = 1
  | i, n + 1, m => VC (f i) ∧ ∃ m', rdp (f i) m = some m' ∧ rok f (i + 1) n m'
theorem rst_num {nv : Nat → Int32} {n : Nat} (h : n < 10000) (s : List Int32) : rst nv (nI n) s = nI n :: s := by
  unfold rst; rw [if_pos (nI_pos' (by omega))]
theorem nmc_neg : ∀ k, k < 6 → ¬ (0 : Int32) ≤ nmc k := by decide
theorem nmc_gt : ∀ k, k < 6 → (-20 : Int32) < nmc k := by decide
theorem nmc_at : ∀ k, k < 6 → (-10 - nmc k).toNatClampNeg = k := by decide
theorem rst_nm {nv : Nat → Int32} {k : Nat} (h : k < 6) (s : List Int32) : rst nv (nmc k) s = nv k :: s := by
  unfold rst; rw [if_neg (nmc_neg k h), if_pos (nmc_gt k h), nmc_at k h]
theorem rst_not {nv : Nat → Int32} {a : Int32} {r : List Int32} : rst nv (-22) (a :: r) = yn (a = 0) :: r := by
  unfold rst; rw [if_neg (by decide), if_neg (by decide)]; rfl
theorem rst_neg {nv : Nat → Int32} {a : Int32} {r : List Int32} : rst nv (-28) (a :: r) = -a :: r := by
  unfold rst; rw [if_neg (by decide), if_neg (by decide)]; rfl
theorem bop_lo {c : Int32} (h : bop c) : ¬ (0 : Int32) ≤ c ∧ ¬ (-20 : Int32) < c ∧ c ≠ -22 ∧ c ≠ -28 := by
  rcases h with rfl | rfl | rfl | rfl | rfl | rfl | rfl <;> decide
theorem rst_bop {nv : Nat → Int32} {c a b : Int32} {r : List Int32} (h : bop c) : rst nv c (b :: a :: r) = dd c a b :: r := by
  obtain ⟨h1, h2, h3, h4⟩ := bop_lo h
  unfold rst; rw [if_neg h1, if_neg h2]; simp only [if_neg h3, if_neg h4]
theorem rdp_num {n m : Nat} (h : n < 10000) : rdp (nI n) m = some (m + 1) := by unfold rdp; rw [if_pos (Or.inl (nI_pos' (by omega)))]
theorem rdp_nm {k m : Nat} (h : k < 6) : rdp (nmc k) m = some (m + 1) := by unfold rdp; rw [if_pos (Or.inr (nmc_gt k h))]
theorem rdp_un {c : Int32} {m : Nat} (h : c = -22 ∨ c = -28) : rdp c m = if m = 0 then none else some m := by
  rcases h with rfl | rfl
  · unfold rdp; rw [if_neg (by decide), if_pos (by decide)]
  · unfold rdp; rw [if_neg (by decide), if_pos (by decide)]
theorem rdp_bop {c : Int32} {m : Nat} (h : bop c) : rdp c m = if m < 2 then none else some (m - 1) := by
  obtain ⟨h1, h2, h3, h4⟩ := bop_lo h
  unfold rdp; rw [if_neg (fun z => z.elim h1 h2), if_neg (fun z => z.elim h3 h4)]
/-- the stack in a row of memory, its top first -/
def sk (f : Nat → Int32) : List Int32 → Prop
  | [] => True
  | a :: r => f r.length = a ∧ sk f r
theorem sk_upd {f : Nat → Int32} {i : Nat} {v : Int32} : ∀ {s : List Int32}, sk f s → s.length ≤ i → sk (upd f i v) s
  | [], _, _ => trivial
  | a :: r, h, hi => by
    simp only [List.length_cons] at hi
    exact ⟨by rw [upd_no (by omega)]; exact h.1, sk_upd h.2 (by omega)⟩
theorem sk_push {f : Nat → Int32} {s : List Int32} {v : Int32} (h : sk f s) : sk (upd f s.length v) (v :: s) := ⟨upd_eq, sk_upd h (Nat.le_refl _)⟩
theorem rok_num {f : Nat → Int32} {i n m j : Nat} (h : rok f i (n + 1) m) (hj : j < 10000) (e : f i = nI j) : rok f (i + 1) n (m + 1) := by
  obtain ⟨-, m', h1, h2⟩ := h
  rw [e, rdp_num hj] at h1
  cases h1; exact h2
theorem rok_nm {f : Nat → Int32} {i n m k : Nat} (h : rok f i (n + 1) m) (hk : k < 6) (e : f i = nmc k) : rok f (i + 1) n (m + 1) := by
  obtain ⟨-, m', h1, h2⟩ := h
  rw [e, rdp_nm hk] at h1
  cases h1; exact h2
theorem rok_un {f : Nat → Int32} {i n m : Nat} (h : rok f i (n + 1) m) (e : f i = -22 ∨ f i = -28) : 0 < m ∧ rok f (i + 1) n m := by
  obtain ⟨-, m', h1, h2⟩ := h
  rw [rdp_un e] at h1
  by_cases hm : m = 0
  · rw [if_pos hm] at h1; cases h1
  · rw [if_neg hm] at h1; cases h1; exact ⟨by omega, h2⟩
theorem rok_bop {f : Nat → Int32} {i n m : Nat} (h : rok f i (n + 1) m) (e : bop (f i)) : 2 ≤ m ∧ rok f (i + 1) n (m - 1) := by
  obtain ⟨-, m', h1, h2⟩ := h
  rw [rdp_bop e] at h1
  by_cases hm : m < 2
  · rw [if_pos hm] at h1; cases h1
  · rw [if_neg hm] at h1; cases h1; exact ⟨by omega, h2⟩
/-- never more numbers on the stack than signs behind -/
theorem rev_succ {nv f : Nat → Int32} {i n : Nat} {s : List Int32} : rev nv f i (n + 1) s = rev nv f (i + 1) n (rst nv (f i) s) := rfl
/-- the class's numbers for the same signs -/
def enc (c : Int32) : Int32 := if 0 ≤ c then c else if -20 < c then c + 9 else if c = -22 then -7 else if c = -28 then -8 else if c = -20 then -9 else if c = -21 then -10 else c + 12
theorem enc_num {n : Nat} (h : n < 10000) : enc (nI n) = nI n := by unfold enc; rw [if_pos (nI_pos' (by omega))]
theorem enc_nm : ∀ k, k < 6 → enc (nmc k) = -1 - nI k := by decide
/-- how often a row's places hold something -/
def cnz (f : Nat → Int32) : Nat → Nat
  | 0 => 0
  | n + 1 => cnz f n + (if f n ≠ 0 then 1 else 0)
theorem cnz_le (f : Nat → Int32) : ∀ n, cnz f n ≤ n
  | 0 => Nat.le_refl _
  | n + 1 => by
    have := cnz_le f n
    simp only [cnz]
    split <;> omega
theorem cnz_cong {f g : Nat → Int32} : ∀ {n : Nat}, (∀ i, i < n → f i = g i) → cnz f n = cnz g n
  | 0, _ => rfl
  | n + 1, h => by rw [cnz, cnz, cnz_cong (fun i hi => h i (by omega)), h n (by omega)]
