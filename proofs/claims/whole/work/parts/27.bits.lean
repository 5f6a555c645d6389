/-! Long.bitCount, byte by byte -/
def mkB (c : Nat) : Nat → Nat
  | 0 => 0
  | k + 1 => c + 256 * mkB c k
def bmB (f : Nat → Nat) : Nat → Nat → Nat
  | 0, _ => 0
  | k + 1, x => f (x % 256) + 256 * bmB f k (x / 256)
theorem land_split (a c y m : Nat) (ha : a < 256) (hc : c < 256) : (a + 256 * y) &&& (c + 256 * m) = (a &&& c) + 256 * (y &&& m) := by
  have e1 : ((a + 256 * y) &&& (c + 256 * m)) % 2 ^ 8 = a &&& c := by
    rw [Nat.and_mod_two_pow, show (2 : Nat) ^ 8 = 256 from rfl, Nat.add_mul_mod_self_left, Nat.add_mul_mod_self_left, Nat.mod_eq_of_lt ha, Nat.mod_eq_of_lt hc]
  have e2 : ((a + 256 * y) &&& (c + 256 * m)) / 2 ^ 8 = y &&& m := by
    rw [Nat.and_div_two_pow, show (2 : Nat) ^ 8 = 256 from rfl, show (a + 256 * y) / 256 = y by omega, show (c + 256 * m) / 256 = m by omega]
  rw [show (2 : Nat) ^ 8 = 256 from rfl] at e1 e2
  omega
def p1B (b : Nat) : Nat := b - (b / 2 &&& 85)
def p2B (b : Nat) : Nat := (b &&& 51) + (b / 4 &&& 51)
def p3B (b : Nat) : Nat := (b + b / 16) &&& 15
theorem c1B : ∀ b, b < 256 → ∀ e, e < 2 → (b / 2 + 128 * e) &&& 85 = b / 2 &&& 85 := by decide +kernel
theorem c2B : ∀ b, b < 256 → ∀ e, e < 4 → (b / 4 + 64 * e) &&& 51 = b / 4 &&& 51 := by decide +kernel
theorem c3B : ∀ h, h < 5 → ∀ l, l < 5 → ∀ e, e < 5 → (16 * h + l + h + 16 * e) &&& 15 = (16 * h + l + h) &&& 15 := by decide +kernel
theorem l1B : ∀ b, b < 256 → (b / 2 &&& 85) ≤ b ∧ p1B b < 256 := by decide +kernel
theorem l2B : ∀ b, b < 256 → p2B (p1B b) / 16 < 5 ∧ p2B (p1B b) % 16 < 5 := by decide +kernel
theorem st1B : ∀ (k x : Nat), x < 256 ^ k → (x / 2 &&& mkB 85 k) + bmB p1B k x = x ∧ (x / 2 &&& mkB 85 k) ≤ x
  | 0, x, h => by
    have : x = 0 := by simpa using h
    subst this
    simp [mkB, bmB]
  | k + 1, x, h => by
    have hx : x = x % 256 + 256 * (x / 256) := by omega
    have hb : x % 256 < 256 := by omega
    obtain ⟨i1, i2⟩ := st1B k (x / 256) (by rw [Nat.pow_succ] at h; omega)
    have e1 : x / 2 = (x % 256 / 2 + 128 * (x / 256 % 2)) + 256 * (x / 256 / 2) := by omega
    have e2 : (x / 2 &&& mkB 85 (k + 1)) = (x % 256 / 2 &&& 85) + 256 * (x / 256 / 2 &&& mkB 85 k) := by
      rw [e1, mkB, land_split _ _ _ _ (by omega) (by decide), c1B _ hb _ (by omega)]
    obtain ⟨l1, -⟩ := l1B _ hb
    rw [e2]
    simp only [bmB]
    rw [show p1B (x % 256) = x % 256 - (x % 256 / 2 &&& 85) from rfl]
    omega
theorem st2B : ∀ (k x : Nat), x < 256 ^ k → (x &&& mkB 51 k) + (x / 4 &&& mkB 51 k) = bmB p2B k x
  | 0, x, h => by simp [mkB, bmB]
  | k + 1, x, h => by
    have hx : x = x % 256 + 256 * (x / 256) := by omega
    have hb : x % 256 < 256 := by omega
    have ih := st2B k (x / 256) (by rw [Nat.pow_succ] at h; omega)
    have e1 : x / 4 = (x % 256 / 4 + 64 * (x / 256 % 4)) + 256 * (x / 256 / 4) := by omega
    have e2 : (x / 4 &&& mkB 51 (k + 1)) = (x % 256 / 4 &&& 51) + 256 * (x / 256 / 4 &&& mkB 51 k) := by
      rw [e1, mkB, land_split _ _ _ _ (by omega) (by decide), c2B _ hb _ (by omega)]
    have e3 : (x &&& mkB 51 (k + 1)) = (x % 256 &&& 51) + 256 * (x / 256 &&& mkB 51 k) := by
      conv => lhs; rw [hx, mkB]
      rw [land_split _ _ _ _ hb (by decide)]
    rw [e2, e3]
    simp only [bmB]
    rw [show p2B (x % 256) = (x % 256 &&& 51) + (x % 256 / 4 &&& 51) from rfl]
    omega
/-- bytes whose halves are at most 4 -/
def hfB : Nat → Nat → Prop
  | 0, _ => True
  | k + 1, x => x % 256 / 16 < 5 ∧ x % 16 < 5 ∧ hfB k (x / 256)
theorem st3B : ∀ (k x : Nat), x < 256 ^ k → hfB k x → (x + x / 16) &&& mkB 15 k = bmB p3B k x
  | 0, x, h, _ => by simp [mkB, bmB]
  | k + 1, x, h, ⟨g1, g2, g3⟩ => by
    have hx : x = x % 256 + 256 * (x / 256) := by omega
    have hb : x % 256 < 256 := by omega
    have ih := st3B k (x / 256) (by rw [Nat.pow_succ] at h; omega) g3
    have g4 : x / 256 % 16 < 5 := by
      cases k with
      | zero => have : x / 256 = 0 := by rw [Nat.pow_succ, Nat.pow_zero] at h; omega
                omega
      | succ k => exact g3.2.1
    have e1 : x + x / 16 = (16 * (x % 256 / 16) + x % 16 + x % 256 / 16 + 16 * (x / 256 % 16)) + 256 * (x / 256 + x / 256 / 16) := by omega
    rw [e1, mkB, land_split _ _ _ _ (by omega) (by decide), c3B _ g1 _ g2 _ g4, ih]
    simp only [bmB]
    rw [show p3B (x % 256) = (x % 256 + x % 256 / 16) &&& 15 from rfl]
    rw [show 16 * (x % 256 / 16) + x % 16 + x % 256 / 16 = x % 256 + x % 256 / 16 by omega]
theorem bmB_lt (f : Nat → Nat) (hf : ∀ b, b < 256 → f b < 256) : ∀ (k x : Nat), bmB f k x < 256 ^ k
  | 0, _ => by simp [bmB]
  | k + 1, x => by
    have := bmB_lt f hf k (x / 256)
    have h2 := hf (x % 256) (by omega)
    simp only [bmB]
    rw [Nat.pow_succ]
    omega
theorem bmB_comp (f g : Nat → Nat) (hf : ∀ b, b < 256 → f b < 256) : ∀ (k x : Nat), bmB g k (bmB f k x) = bmB (fun b => g (f b)) k x
  | 0, _ => rfl
  | k + 1, x => by
    have h2 := hf (x % 256) (by omega)
    have ih := bmB_comp f g hf k (x / 256)
    simp only [bmB]
    rw [show (f (x % 256) + 256 * bmB f k (x / 256)) % 256 = f (x % 256) by omega, show (f (x % 256) + 256 * bmB f k (x / 256)) / 256 = bmB f k (x / 256) by omega, ih]
theorem hfB_bm : ∀ (k x : Nat), hfB k (bmB (fun b => p2B (p1B b)) k x)
  | 0, _ => trivial
  | k + 1, x => by
    obtain ⟨h1, h2⟩ := l2B (x % 256) (by omega)
    have ih := hfB_bm k (x / 256)
    have h3 : p2B (p1B (x % 256)) < 256 := by omega
    simp only [bmB, hfB]
    refine ⟨by omega, by omega, ?_⟩
    rw [show (p2B (p1B (x % 256)) + 256 * bmB (fun b => p2B (p1B b)) k (x / 256)) / 256 = bmB (fun b => p2B (p1B b)) k (x / 256) by omega]
    exact ih
def pcB (b : Nat) : Nat := p3B (p2B (p1B b))
theorem pc8B : ∀ b, b < 256 → pcB b ≤ 8 := by decide +kernel
/-- the bits of places that hold something -/
def bmN (f : Nat → Int32) : Nat → Nat
  | 0 => 0
  | n + 1 => bmN f n + (if f n ≠ 0 then 2 ^ n else 0)
theorem bmN_lt (f : Nat → Int32) : ∀ n, bmN f n < 2 ^ n
  | 0 => by simp [bmN]
  | n + 1 => by
    have := bmN_lt f n
    rw [Nat.pow_succ]
    simp only [bmN]
    split <;> omega
theorem bmN_cong {f g : Nat → Int32} : ∀ {n : Nat}, (∀ i, i < n → f i = g i) → bmN f n = bmN g n
  | 0, _ => rfl
  | n + 1, h => by rw [bmN, bmN, bmN_cong (fun i hi => h i (by omega)), h n (by omega)]
theorem pcbits : ∀ b, b < 256 → pcB b = b % 2 + b / 2 % 2 + b / 4 % 2 + b / 8 % 2 + b / 16 % 2 + b / 32 % 2 + b / 64 % 2 + b / 128 % 2 := by decide +kernel
def oneB (x : Int32) : Nat := if x ≠ 0 then 1 else 0
theorem oneB_lt (x : Int32) : oneB x < 2 := by unfold oneB; split <;> decide
theorem bmN_8 (f : Nat → Int32) (n : Nat) : bmN f (n + 8) = bmN f n + 2 ^ n * (oneB (f n) + 2 * oneB (f (n + 1)) + 4 * oneB (f (n + 2)) + 8 * oneB (f (n + 3)) + 16 * oneB (f (n + 4)) + 32 * oneB (f (n + 5)) + 64 * oneB (f (n + 6)) + 128 * oneB (f (n + 7))) := by
  have key : ∀ m, (if f m ≠ 0 then 2 ^ m else 0) = 2 ^ m * oneB (f m) := by intro m; unfold oneB; split <;> simp
  simp only [bmN, key]
  have e : ∀ j, 2 ^ (n + j) = 2 ^ n * 2 ^ j := fun j => Nat.pow_add 2 n j
  rw [show n + 1 + 1 = n + 2 from rfl, show n + 2 + 1 = n + 3 from rfl, show n + 3 + 1 = n + 4 from rfl, show n + 4 + 1 = n + 5 from rfl, show n + 5 + 1 = n + 6 from rfl, show n + 6 + 1 = n + 7 from rfl]
  rw [e 1, e 2, e 3, e 4, e 5, e 6, e 7]
  generalize 2 ^ n = q
  simp only [show (2 : Nat) ^ 1 = 2 from rfl, show (2 : Nat) ^ 2 = 4 from rfl, show (2 : Nat) ^ 3 = 8 from rfl, show (2 : Nat) ^ 4 = 16 from rfl, show (2 : Nat) ^ 5 = 32 from rfl, show (2 : Nat) ^ 6 = 64 from rfl, show (2 : Nat) ^ 7 = 128 from rfl, Nat.mul_add, Nat.mul_assoc]
  omega
theorem cnz_8 (f : Nat → Int32) (n : Nat) : cnz f (n + 8) = cnz f n + (oneB (f n) + oneB (f (n + 1)) + oneB (f (n + 2)) + oneB (f (n + 3)) + oneB (f (n + 4)) + oneB (f (n + 5)) + oneB (f (n + 6)) + oneB (f (n + 7))) := by
  have key : ∀ m, (if f m ≠ 0 then 1 else 0) = oneB (f m) := fun m => rfl
  simp only [cnz, key]
  omega
theorem bmB_zero (f : Nat → Nat) (h : f 0 = 0) : ∀ k, bmB f k 0 = 0
  | 0 => rfl
  | k + 1 => by simp [bmB, h, bmB_zero f h k]
/-- what is left of forty bits when the bytes are counted: five counts -/
theorem five (f : Nat → Int32) : ∃ c0 c1 c2 c3 c4, c0 ≤ 8 ∧ c1 ≤ 8 ∧ c2 ≤ 8 ∧ c3 ≤ 8 ∧ c4 ≤ 8 ∧ bmB pcB 8 (bmN f 40) = c0 + 256 * c1 + 65536 * c2 + 16777216 * c3 + 4294967296 * c4 ∧ cnz f 40 = c0 + c1 + c2 + c3 + c4 := by
  have byte : ∀ n, ∃ B, B < 256 ∧ bmN f (n + 8) = bmN f n + 2 ^ n * B ∧ cnz f (n + 8) = cnz f n + pcB B := by
    intro n
    have l0 := oneB_lt (f n); have l1 := oneB_lt (f (n + 1)); have l2 := oneB_lt (f (n + 2)); have l3 := oneB_lt (f (n + 3))
    have l4 := oneB_lt (f (n + 4)); have l5 := oneB_lt (f (n + 5)); have l6 := oneB_lt (f (n + 6)); have l7 := oneB_lt (f (n + 7))
    refine ⟨_, ?_, bmN_8 f n, ?_⟩
    · omega
    · rw [pcbits _ (by omega), cnz_8]
      omega
  obtain ⟨B0, g0, e0, k0⟩ := byte 0
  obtain ⟨B1, g1, e1, k1⟩ := byte 8
  obtain ⟨B2, g2, e2, k2⟩ := byte 16
  obtain ⟨B3, g3, e3, k3⟩ := byte 24
  obtain ⟨B4, g4, e4, k4⟩ := byte 32
  simp only [Nat.reduceAdd, Nat.reducePow] at e0 e1 e2 e3 e4 k0 k1 k2 k3 k4
  have z0 : bmN f 0 = 0 := rfl
  have z1 : cnz f 0 = 0 := rfl
  refine ⟨pcB B0, pcB B1, pcB B2, pcB B3, pcB B4, pc8B _ g0, pc8B _ g1, pc8B _ g2, pc8B _ g3, pc8B _ g4, ?_, by omega⟩
  have ex : bmN f 40 = B0 + 256 * (B1 + 256 * (B2 + 256 * (B3 + 256 * B4))) := by omega
  rw [ex]
  simp only [bmB]
  rw [show (B0 + 256 * (B1 + 256 * (B2 + 256 * (B3 + 256 * B4)))) % 256 = B0 by omega, show (B0 + 256 * (B1 + 256 * (B2 + 256 * (B3 + 256 * B4)))) / 256 = B1 + 256 * (B2 + 256 * (B3 + 256 * B4)) by omega]
  rw [show (B1 + 256 * (B2 + 256 * (B3 + 256 * B4))) % 256 = B1 by omega, show (B1 + 256 * (B2 + 256 * (B3 + 256 * B4))) / 256 = B2 + 256 * (B3 + 256 * B4) by omega]
  rw [show (B2 + 256 * (B3 + 256 * B4)) % 256 = B2 by omega, show (B2 + 256 * (B3 + 256 * B4)) / 256 = B3 + 256 * B4 by omega]
  rw [show (B3 + 256 * B4) % 256 = B3 by omega, show (B3 + 256 * B4) / 256 = B4 by omega]
  rw [show B4 % 256 = B4 by omega, show B4 / 256 = 0 by omega]
  simp only [Nat.zero_mod, Nat.zero_div, show pcB 0 = 0 by decide]
  omega
