/-! THE TAPE IN TOKENS -/
def isb (c : Int32) : Bool := decide (c = 32 ∨ c = 10)
def isl (c : Int32) : Bool := decide (97 ≤ c ∧ c ≤ 122)
def isd (c : Int32) : Bool := decide (48 ≤ c ∧ c ≤ 57)
/-- on while the signs are such -/
def rn (P : Int32 → Bool) (f : Nat → Int32) (z : Nat) : Nat → Nat → Nat
  | 0, p => p
  | k + 1, p => if p < z ∧ P (f p) = true then rn P f z k (p + 1) else p
theorem rn_go {P : Int32 → Bool} {f : Nat → Int32} {z k p : Nat} (h : p < z ∧ P (f p) = true) : rn P f z (k + 1) p = rn P f z k (p + 1) := by rw [rn, if_pos h]
theorem rn_no {P : Int32 → Bool} {f : Nat → Int32} {z p : Nat} (h : ¬ (p < z ∧ P (f p) = true)) : ∀ k, rn P f z k p = p
  | 0 => rfl
  | k + 1 => by rw [rn, if_neg h]
theorem rn_ok {P : Int32 → Bool} {f : Nat → Int32} {z : Nat} : ∀ k p, p ≤ z → p ≤ rn P f z k p ∧ rn P f z k p ≤ z ∧ (∀ j, p ≤ j → j < rn P f z k p → P (f j) = true) ∧ (z ≤ p + k → ¬ (rn P f z k p < z ∧ P (f (rn P f z k p)) = true)) := by
  intro k
  induction k with
  | zero =>
    intro p hp
    refine ⟨Nat.le_refl _, hp, fun j h1 h2 => ?_, fun h => ?_⟩
    · rw [rn] at h2; omega
    · rw [rn]; intro q; omega
  | succ k ih =>
    intro p hp
    by_cases q : p < z ∧ P (f p) = true
    · rw [rn_go q]
      obtain ⟨h1, h2, h3, h4⟩ := ih (p + 1) (by omega)
      refine ⟨by omega, h2, fun j j1 j2 => ?_, fun h => h4 (by omega)⟩
      rcases Nat.lt_or_ge p j with y | y
      · exact h3 j y j2
      · rw [show j = p by omega]; exact q.2
    · rw [rn_no q]
      exact ⟨Nat.le_refl _, hp, fun j j1 j2 => by omega, fun _ => q⟩
/-- more steps than are wanted -/
theorem rn_st {P : Int32 → Bool} {f : Nat → Int32} {z : Nat} : ∀ k p, z ≤ p + k → rn P f z (k + 1) p = rn P f z k p := by
  intro k
  induction k with
  | zero =>
    intro p h
    rw [rn_no (by omega), rn]
  | succ k ih =>
    intro p h
    by_cases q : p < z ∧ P (f p) = true
    · rw [rn_go q, rn_go q, ih (p + 1) (by omega)]
    · rw [rn_no q, rn_no q]
theorem rn_160 {P : Int32 → Bool} {f : Nat → Int32} {z p : Nat} (hz : z ≤ 160) : ∀ k, k ≤ 160 → z ≤ p + k → rn P f z k p = rn P f z 160 p := by
  have : ∀ j k, k + j = 160 → z ≤ p + k → rn P f z k p = rn P f z 160 p := by
    intro j
    induction j with
    | zero => intro k h _; rw [show k = 160 by omega]
    | succ j ih =>
      intro k h h2
      rw [← rn_st k p h2]
      exact ih (k + 1) (by omega) (by omega)
  intro k hk h
  exact this (160 - k) k (by omega) h
/-- the sort at a place -/
def so (f : Nat → Int32) (z p : Nat) : Nat := if z ≤ p then 0 else if isl (f p) = true then 1 else if isd (f p) = true then 2 else 3
/-- a token begun at a place, its end -/
def eo (f : Nat → Int32) (z s : Nat) : Nat := if so f z s = 0 then s else if so f z s = 1 then rn isl f z 160 s else if so f z s = 2 then rn isd f z 160 s else s + 1
def tE (f : Nat → Int32) (z : Nat) : Nat → Nat
  | 0 => 0
  | i + 1 => eo f z (rn isb f z 160 (tE f z i))
def tS (f : Nat → Int32) (z i : Nat) : Nat := rn isb f z 160 (tE f z i)
theorem tE_s {f : Nat → Int32} {z i : Nat} : tE f z (i + 1) = eo f z (tS f z i) := rfl
theorem so_lt {f : Nat → Int32} {z p : Nat} (h : so f z p ≠ 0) : p < z := by
  unfold so at h
  by_cases q : z ≤ p
  · rw [if_pos q] at h; exact absurd rfl h
  · omega
theorem so_0 {f : Nat → Int32} {z p : Nat} : so f z p = 0 ↔ z ≤ p := by
  constructor
  · intro h
    rcases Nat.lt_or_ge p z with q | q
    · unfold so at h
      rw [if_neg (by omega)] at h
      split at h
      · omega
      · split at h <;> omega
    · exact q
  · intro h
    unfold so
    rw [if_pos h]
theorem so_1 {f : Nat → Int32} {z p : Nat} (h : p < z) : so f z p = 1 ↔ isl (f p) = true := by
  unfold so
  rw [if_neg (by omega)]
  constructor
  · intro q
    split at q
    · assumption
    · split at q <;> omega
  · intro q; rw [if_pos q]
theorem ld_no {c : Int32} (h : isl c = true) : ¬ isd c = true := by
  unfold isl isd at *
  rw [decide_eq_true_eq] at *
  intro q
  have h1 := (i_le _ _).mp h.1
  have h2 := (i_le _ _).mp q.2
  have e1 : (97 : Int32).toInt = 97 := by decide
  have e2 : (57 : Int32).toInt = 57 := by decide
  omega
theorem so_2 {f : Nat → Int32} {z p : Nat} (h : p < z) : so f z p = 2 ↔ isd (f p) = true := by
  unfold so
  rw [if_neg (by omega)]
  constructor
  · intro q
    split at q
    · omega
    · split at q
      · assumption
      · omega
  · intro q
    rw [if_neg (fun z => ld_no z q), if_pos q]
theorem so_4 (f : Nat → Int32) (z p : Nat) : so f z p = 0 ∨ so f z p = 1 ∨ so f z p = 2 ∨ so f z p = 3 := by
  unfold so
  split
  · exact Or.inl rfl
  · split
    · exact Or.inr (Or.inl rfl)
    · split
      · exact Or.inr (Or.inr (Or.inl rfl))
      · exact Or.inr (Or.inr (Or.inr rfl))
theorem eo_ok {f : Nat → Int32} {z s : Nat} (hz : z ≤ 160) (hs : s ≤ z) : s ≤ eo f z s ∧ eo f z s ≤ z ∧ (so f z s ≠ 0 → s < eo f z s) := by
  unfold eo
  rcases so_4 f z s with e | e | e | e
  · rw [if_pos e]; exact ⟨Nat.le_refl _, hs, fun q => absurd e q⟩
  · have hl := so_lt (show so f z s ≠ 0 by omega)
    have hi := (so_1 hl).mp e
    rw [if_neg (by omega), if_pos e]
    obtain ⟨h1, h2, h3, h4⟩ := rn_ok (P := isl) (f := f) (z := z) 160 s hs
    refine ⟨h1, h2, fun _ => ?_⟩
    rcases Nat.eq_or_lt_of_le h1 with q | q
    · have := h4 (by omega)
      rw [← q] at this
      exact absurd ⟨hl, hi⟩ this
    · exact q
  · have hl := so_lt (show so f z s ≠ 0 by omega)
    have hi := (so_2 hl).mp e
    rw [if_neg (by omega), if_neg (by omega), if_pos e]
    obtain ⟨h1, h2, h3, h4⟩ := rn_ok (P := isd) (f := f) (z := z) 160 s hs
    refine ⟨h1, h2, fun _ => ?_⟩
    rcases Nat.eq_or_lt_of_le h1 with q | q
    · have := h4 (by omega)
      rw [← q] at this
      exact absurd ⟨hl, hi⟩ this
    · exact q
  · have hl := so_lt (show so f z s ≠ 0 by omega)
    rw [if_neg (by omega), if_neg (by omega), if_neg (by omega)]
    exact ⟨by omega, by omega, fun _ => by omega⟩
theorem tE_le {f : Nat → Int32} {z : Nat} (hz : z ≤ 160) : ∀ i, tE f z i ≤ z ∧ tE f z i ≤ tS f z i ∧ tS f z i ≤ z := by
  intro i
  induction i with
  | zero =>
    have h := rn_ok (P := isb) (f := f) (z := z) 160 0 (Nat.zero_le _)
    exact ⟨Nat.zero_le _, h.1, h.2.1⟩
  | succ i ih =>
    have h1 := (eo_ok (f := f) hz ih.2.2).2.1
    have h := rn_ok (P := isb) (f := f) (z := z) 160 (eo f z (tS f z i)) h1
    exact ⟨h1, h.1, h.2.1⟩
theorem tS_le {f : Nat → Int32} {z : Nat} (hz : z ≤ 160) (i : Nat) : tS f z i ≤ tE f z (i + 1) := (eo_ok hz (tE_le hz i).2.2).1
theorem tE_up {f : Nat → Int32} {z i : Nat} (hz : z ≤ 160) (h : so f z (tS f z i) ≠ 0) : tE f z i < tE f z (i + 1) := by
  have h1 := (tE_le (f := f) hz i).2
  have h2 := (eo_ok hz h1.2).2.2 h
  rw [tE_s]
  omega
/-- words: which of the twelve -/
def spl (k j : Nat) : Int32 := txc 1 (7 * k + j)
def mt (f : Nat → Int32) (s e k : Nat) : Prop := e - s ≤ 6 ∧ ∀ j, j < 6 → mNm (6 * k + j) = if s + j < e then f (s + j) else 0
noncomputable def wdF (f : Nat → Int32) (s e : Nat) : Nat → Int32
  | 0 => -1
  | k + 1 => @ite Int32 (mt f s e k) (Classical.propDecidable _) (nI k) (wdF f s e k)
theorem wdF_t {f : Nat → Int32} {s e k : Nat} (h : mt f s e k) : wdF f s e (k + 1) = nI k := by rw [wdF, if_pos h]
theorem wdF_f {f : Nat → Int32} {s e k : Nat} (h : ¬ mt f s e k) : wdF f s e (k + 1) = wdF f s e k := by rw [wdF, if_neg h]
theorem wdF_ok (f : Nat → Int32) (s e : Nat) : ∀ n, wdF f s e n = -1 ∨ ∃ k, k < n ∧ wdF f s e n = nI k := by
  intro n
  induction n with
  | zero => exact Or.inl rfl
  | succ n ih =>
    by_cases h : mt f s e n
    · rw [wdF_t h]; exact Or.inr ⟨n, by omega, rfl⟩
    · rw [wdF_f h]
      rcases ih with q | ⟨k, hk, q⟩
      · exact Or.inl q
      · exact Or.inr ⟨k, by omega, q⟩
theorem spl_nm : ∀ k, k < 12 → ∀ j, j < 6 → spl k j = (if mNm (6 * k + j) = 0 then 32 else mNm (6 * k + j)) ∧ mNm (6 * k + j) ≠ 32 ∧ (mNm (6 * k + j) = 0 → j + 1 < 6 → mNm (6 * k + (j + 1)) = 0) := by decide +kernel
theorem spl_6 : ∀ k, k < 12 → spl k 6 = 32 := by decide +kernel
theorem isl_ne {c : Int32} (h : isl c = true) : c ≠ 32 ∧ c ≠ 0 := by
  unfold isl at h
  rw [decide_eq_true_eq] at h
  have h1 := (i_le _ _).mp h.1
  have e1 : (97 : Int32).toInt = 97 := by decide
  refine ⟨fun q => ?_, fun q => ?_⟩
  · rw [q] at h1
    exact absurd h1 (by decide)
  · rw [q] at h1
    exact absurd h1 (by decide)
/-- the class's way to tell a word, and the reference's -/
theorem mt_iff {f : Nat → Int32} {s e k : Nat} (hk : k < 12) (he : s < e) (hl : ∀ j, s ≤ j → j < e → isl (f j) = true) (h6 : e - s ≤ 6) : mt f s e k ↔ (∀ j, j < e - s → spl k j = f (s + j)) ∧ spl k (e - s) = 32 := by
  constructor
  · rintro ⟨_, h⟩
    constructor
    · intro j hj
      have h1 := h j (by omega)
      rw [if_pos (by omega)] at h1
      have h2 := isl_ne (hl (s + j) (by omega) (by omega))
      rw [(spl_nm k hk j (by omega)).1, h1, if_neg h2.2]
    · rcases Nat.lt_or_ge (e - s) 6 with q | q
      · have h1 := h (e - s) q
        rw [if_neg (by omega)] at h1
        rw [(spl_nm k hk _ q).1, if_pos h1]
      · rw [show e - s = 6 by omega]; exact spl_6 k hk
  · rintro ⟨h1, h2⟩
    refine ⟨h6, fun j hj => ?_⟩
    have key : ∀ m, e - s + m < 6 → mNm (6 * k + (e - s + m)) = 0 := by
      intro m
      induction m with
      | zero =>
        intro hm
        have := spl_nm k hk (e - s) hm
        rw [h2] at this
        rcases Decidable.em (mNm (6 * k + (e - s)) = 0) with q | q
        · exact q
        · rw [if_neg q] at this
          exact absurd this.1.symm this.2.1
      | succ m ih =>
        intro hm
        exact (spl_nm k hk (e - s + m) (by omega)).2.2 (ih (by omega)) (by omega)
    by_cases q : s + j < e
    · rw [if_pos q]
      have e1 := h1 j (by omega)
      have e2 := isl_ne (hl (s + j) (by omega) q)
      have e3 := (spl_nm k hk j hj).1
      rcases Decidable.em (mNm (6 * k + j) = 0) with y | y
      · rw [if_pos y, e1] at e3
        exact absurd e3 e2.1
      · rw [if_neg y, e1] at e3
        exact e3.symm
    · rw [if_neg q]
      have := key (j - (e - s)) (by omega)
      rw [show e - s + (j - (e - s)) = j by omega] at this
      exact this
/-- numbers -/
def amF (f : Nat → Int32) (s : Nat) : Nat → Int32
  | 0 => 0
  | k + 1 => amF f s k * 10 + f (s + k) - 48
theorem amF_ok {f : Nat → Int32} {s : Nat} : ∀ k, (∀ j, j < k → isd (f (s + j)) = true) → ∃ v, v < 10 ^ k ∧ amF f s k = nI v := by
  intro k
  induction k with
  | zero => intro _; exact ⟨0, by decide, rfl⟩
  | succ k ih =>
    intro h
    obtain ⟨v, hv, e⟩ := ih (fun j hj => h j (by omega))
    have hd := h k (by omega)
    unfold isd at hd
    rw [decide_eq_true_eq] at hd
    have h1 := (i_le _ _).mp hd.1
    have h2 := (i_le _ _).mp hd.2
    have e1 : (48 : Int32).toInt = 48 := by decide
    have e2 : (57 : Int32).toInt = 57 := by decide
    obtain ⟨c, hc, ec⟩ : ∃ c : Nat, c < 10 ∧ f (s + k) = nI (48 + c) := by
      refine ⟨((f (s + k)).toInt - 48).toNat, by omega, ?_⟩
      rw [i_eq, nI_toInt (by omega)]
      omega
    refine ⟨v * 10 + c, by rw [Nat.pow_succ]; omega, ?_⟩
    rw [amF, e, ec]
    show nI v * nI 10 + nI (48 + c) - nI 48 = _
    rw [pk_mul, nI_add, pk_sub (by omega)]
    congr 1
    omega
/-- what the class makes of a token: a word's number, a sign, 300 a number, 301 the end, 302 wrong -/
noncomputable def tkA (f : Nat → Int32) (z s : Nat) : Int32 :=
  if so f z s = 0 then 301 else if so f z s = 1 then (if wdF f s (eo f z s) 12 = -1 then 302 else wdF f s (eo f z s) 12)
  else if so f z s = 2 then (if eo f z s - s ≤ 4 then 300 else 302) else if inS (f s).toNatClampNeg = true then f s else 302
noncomputable def tk (f : Nat → Int32) (z i : Nat) : Int32 := tkA f z (tS f z i)
def am (f : Nat → Int32) (z i : Nat) : Int32 := amF f (tS f z i) (tE f z (i + 1) - tS f z i)
theorem inS_rng : ∀ b, b < 256 → inS b = true → 40 ≤ b ∧ b ≤ 61 := by decide +kernel
/-- its cases -/
theorem tk_cases {f : Nat → Int32} {z s : Nat} (hf : ∀ j, j < z → ∃ b, b < 256 ∧ f j = nI b) : (so f z s = 0 ∧ tkA f z s = 301) ∨ (so f z s = 1 ∧ ((tkA f z s = 302 ∧ wdF f s (eo f z s) 12 = -1) ∨ ∃ k, k < 12 ∧ tkA f z s = nI k ∧ wdF f s (eo f z s) 12 = nI k)) ∨ (so f z s = 2 ∧ ((eo f z s - s ≤ 4 ∧ tkA f z s = 300) ∨ (¬ eo f z s - s ≤ 4 ∧ tkA f z s = 302))) ∨ (so f z s = 3 ∧ ∃ b, b < 256 ∧ f s = nI b ∧ ((inS b = true ∧ tkA f z s = nI b) ∨ (¬ inS b = true ∧ tkA f z s = 302))) := by
  unfold tkA
  rcases so_4 f z s with e | e | e | e
  · exact Or.inl ⟨e, by rw [if_pos e]⟩
  · refine Or.inr (Or.inl ⟨e, ?_⟩)
    rw [if_neg (by omega), if_pos e]
    rcases wdF_ok f s (eo f z s) 12 with q | ⟨k, hk, q⟩
    · exact Or.inl ⟨by rw [if_pos q], q⟩
    · exact Or.inr ⟨k, hk, by rw [q, if_neg (nI_nm1 (by omega))], q⟩
  · refine Or.inr (Or.inr (Or.inl ⟨e, ?_⟩))
    rw [if_neg (by omega), if_neg (by omega), if_pos e]
    by_cases q : eo f z s - s ≤ 4
    · exact Or.inl ⟨q, by rw [if_pos q]⟩
    · exact Or.inr ⟨q, by rw [if_neg q]⟩
  · refine Or.inr (Or.inr (Or.inr ⟨e, ?_⟩))
    rw [if_neg (by omega), if_neg (by omega), if_neg (by omega)]
    obtain ⟨b, hb, eb⟩ := hf s (so_lt (f := f) (z := z) (by omega))
    refine ⟨b, hb, eb, ?_⟩
    rw [eb, nI_clamp (by omega)]
    by_cases q : inS b = true
    · exact Or.inl ⟨q, by rw [if_pos q]⟩
    · exact Or.inr ⟨q, by rw [if_neg q]⟩
