/-! what telling rests on; angers changed -/
def EV (S' S : mA) : Prop := S' 42 = S 42 ∧ S' 43 = S 43 ∧ S' 39 61 = S 39 61 ∧ S' 39 60 = S 39 60 ∧ cnz (S' 39) 40 = cnz (S 39) 40
theorem nvF_ev {S' S : mA} (h : EV S' S) (w a nr : Int32) : nvF S' w a nr = nvF S w a nr := by
  obtain ⟨-, -, h3, h4, h5⟩ := h
  funext k
  match k with
  | 0 => rfl
  | 1 => rfl
  | 2 => rfl
  | 3 => exact h3
  | 4 => show nI _ = nI _; rw [h5]
  | k + 5 => exact h4
theorem tl_ev {S' S : mA} (h : EV S' S) (r p : Nat) (nv : Nat → Int32) : tl S' r p nv = tl S r p nv := by
  unfold tl pe
  rw [h.1, h.2.1]
theorem heatF_ev {S' S : mA} (h : EV S' S) (r : Nat) (kd nr a w : Int32) : heatF S' r kd nr a w = heatF S r kd nr a w := by
  unfold heatF hV
  rw [tl_ev h, nvF_ev h]
theorem coolF_ev {S' S : mA} (h : EV S' S) (r : Nat) (kd nr a : Int32) : coolF S' r kd nr a = coolF S r kd nr a := by
  unfold coolF cV
  rw [tl_ev h, nvF_ev h]
theorem farF_ev {S' S : mA} (h : EV S' S) (r : Nat) (kd nr a : Int32) : farF S' r kd nr a = farF S r kd nr a := by
  unfold farF fV
  rw [tl_ev h, nvF_ev h]
theorem bmF_ev {S' S : mA} (h : EV S' S) (r : Nat) (kd nr a : Int32) : bmF S' r kd nr a = bmF S r kd nr a := by
  unfold bmF
  rw [coolF_ev h]
def itF (f : Int32 → Int32) : Nat → Int32 → Int32
  | 0, a => a
  | k + 1, a => itF f k (f a)
theorem itF_succ (f : Int32 → Int32) : ∀ (k : Nat) (a : Int32), itF f (k + 1) a = f (itF f k a)
  | 0, _ => rfl
  | k + 1, a => itF_succ f k (f a)
/-- the angers of the first m pairs changed -/
def setA (f g : Nat → Int32) (m : Nat) : Nat → Int32 := fun j => if 42 ≤ j ∧ j < 42 + 4 * m ∧ j % 4 = 2 then g ((j - 42) / 4) else f j
theorem setA_0 (f g : Nat → Int32) : setA f g 0 = f := by
  funext j
  unfold setA
  rw [if_neg (by omega)]
theorem setA_succ (f g : Nat → Int32) (m : Nat) : upd (setA f g m) (42 + 4 * m) (g m) = setA f g (m + 1) := by
  funext j
  unfold upd setA
  by_cases e : j = 42 + 4 * m
  · rw [if_pos e, if_pos (by omega), e]
    congr 1
    omega
  · rw [if_neg e]
    by_cases h : 42 ≤ j ∧ j < 42 + 4 * m ∧ j % 4 = 2
    · rw [if_pos h, if_pos (by omega)]
    · rw [if_neg h, if_neg (by omega)]
theorem setA_set (f g h : Nat → Int32) (n : Nat) : setA (setA f g n) h n = setA f h n := by
  funext j
  unfold setA
  by_cases q : 42 ≤ j ∧ j < 42 + 4 * n ∧ j % 4 = 2
  · rw [if_pos q, if_pos q]
  · rw [if_neg q, if_neg q, if_neg q]
theorem setA_an {f g : Nat → Int32} {m p : Nat} (h : p < m) : setA f g m (42 + 4 * p) = g p := by
  unfold setA
  rw [if_pos (by omega)]
  congr 1
  omega
theorem setA_no {f g : Nat → Int32} {m j : Nat} (h : ¬ (42 ≤ j ∧ j < 42 + 4 * m ∧ j % 4 = 2)) : setA f g m j = f j := if_neg h
theorem setA_self {f : Nat → Int32} {n : Nat} : setA f (fun p => f (42 + 4 * p)) n = f := by
  funext j
  unfold setA
  by_cases q : 42 ≤ j ∧ j < 42 + 4 * n ∧ j % 4 = 2
  · rw [if_pos q]
    show f (42 + 4 * ((j - 42) / 4)) = f j
    congr 1
    omega
  · rw [if_neg q]
theorem setA_cong {f g h : Nat → Int32} {n : Nat} (e : ∀ p, p < n → g p = h p) : setA f g n = setA f h n := by
  funext j
  unfold setA
  by_cases q : 42 ≤ j ∧ j < 42 + 4 * n ∧ j % 4 = 2
  · rw [if_pos q, if_pos q, e _ (by omega)]
  · rw [if_neg q, if_neg q]
theorem WfN.setA {f g : Nat → Int32} {T n m : Nat} (h : WfN f T n) (hm : m ≤ n) (hg : ∀ p, p < m → ∃ a, a < 100 ∧ g p = nI a) : WfN (setA f g m) T n := by
  obtain ⟨h1, h2, h3, h4, h5, h6⟩ := h
  refine ⟨h1, by rw [setA_no (by omega)]; exact h2, by rw [setA_no (by omega)]; exact h3, by rw [setA_no (by omega)]; exact h4, fun p hp => ?_, fun i hi => by rw [setA_no (by omega)]; exact h6 i hi⟩
  obtain ⟨a, b, c, e⟩ := h5 p hp
  rw [setA_no (by omega), setA_no (by omega), setA_no (j := 43 + 4 * p) (by omega)]
  refine ⟨a, b, ?_, e⟩
  by_cases q : p < m
  · rw [setA_an q]; exact hg p q
  · rw [setA_no (by omega)]; exact c
theorem setA_ev {S : mA} {g : Nat → Int32} {m : Nat} (hm : m ≤ 5) : EV (va_up S 39 (setA (S 39) g m)) S := by
  refine ⟨va_up_no (by decide), va_up_no (by decide), ?_, ?_, ?_⟩
  · rw [va_up_eq, setA_no (by omega)]
  · rw [va_up_eq, setA_no (by omega)]
  · rw [va_up_eq]; exact cnz_cong (fun i hi => setA_no (by omega))
theorem bmP_setA {S : mA} {g : Nat → Int32} {m p : Nat} (hm : m ≤ 5) (a : Int32) : bmP (va_up S 39 (setA (S 39) g m)) p a = bmP S p a := by
  unfold bmP
  rw [bmF_ev (setA_ev hm)]
  unfold rF kdP nrP
  rw [va_up_eq, setA_no (by omega), setA_no (by omega), setA_no (by omega)]
/-- TOLD, one more -/
theorem told_ok {u : Nat} (h : u < 10000) : (if nI u + 1 < 9999 then nI u + 1 else 9999) = nI (min (u + 1) 9999) ∧ clp (nI u + 1) 0 9999 = nI (min (u + 1) 9999) := by
  rw [nI_1]
  have e := nI_toInt (n := u + 1) (by omega)
  have e1 : (9999 : Int32).toInt = 9999 := by decide
  have e0 : (0 : Int32).toInt = 0 := by decide
  have hlt : nI (u + 1) < 9999 ↔ u + 1 < 9999 := by rw [i_lt, e, e1]; omega
  constructor
  · by_cases q : u + 1 < 9999
    · rw [if_pos (hlt.mpr q), Nat.min_eq_left (by omega)]
    · rw [if_neg (fun x => q (hlt.mp x)), Nat.min_eq_right (by omega)]; rfl
  · unfold clp
    rw [if_neg (by rw [i_lt, e, e0]; omega)]
    by_cases q : 9999 < u + 1
    · rw [if_pos (by rw [i_lt, e, e1]; omega), Nat.min_eq_right (by omega)]; rfl
    · rw [if_neg (by rw [i_lt, e, e1]; omega), Nat.min_eq_left (by omega)]
