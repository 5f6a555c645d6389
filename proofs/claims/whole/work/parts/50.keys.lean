/-! ROWS OF WORDS AS NUMBERS: a row is a number K in bijective base six; its end from a0; the order of numbers is the order of the rows, shorter ones first -/
def en (g : Nat → Nat → Nat) (a0 : Nat) : Nat → Nat
  | 0 => a0
  | m + 1 => g (en g a0 (m / 6)) (m % 6)
termination_by m => m
decreasing_by omega
def ln : Nat → Nat
  | 0 => 0
  | m + 1 => ln (m / 6) + 1
termination_by m => m
decreasing_by omega
def rw10 : Nat → Nat
  | 0 => 0
  | m + 1 => 10 * rw10 (m / 6) + m % 6 + 1
termination_by m => m
decreasing_by omega
theorem en_0 {g : Nat → Nat → Nat} {a0 : Nat} : en g a0 0 = a0 := by rw [en]
theorem ln_0 : ln 0 = 0 := by rw [ln]
theorem rw10_0 : rw10 0 = 0 := by rw [rw10]
theorem k_div {K w : Nat} (h : w < 6) : (6 * K + w) / 6 = K := by omega
theorem k_mod {K w : Nat} (h : w < 6) : (6 * K + w) % 6 = w := by omega
theorem en_s {g : Nat → Nat → Nat} {a0 K w : Nat} (h : w < 6) : en g a0 (6 * K + w + 1) = g (en g a0 K) w := by
  rw [en, k_div h, k_mod h]
theorem ln_s {K w : Nat} (h : w < 6) : ln (6 * K + w + 1) = ln K + 1 := by
  rw [ln, k_div h]
theorem rw10_s {K w : Nat} (h : w < 6) : rw10 (6 * K + w + 1) = 10 * rw10 K + w + 1 := by
  rw [rw10, k_div h, k_mod h]
theorem k_cases (K : Nat) : K = 0 ∨ ∃ M w, w < 6 ∧ K = 6 * M + w + 1 ∧ M < K := by
  rcases Nat.eq_zero_or_pos K with h | h
  · exact Or.inl h
  · exact Or.inr ⟨(K - 1) / 6, (K - 1) % 6, Nat.mod_lt _ (by decide), by omega, by omega⟩
theorem ln_mono : ∀ (K' K : Nat), K ≤ K' → ln K ≤ ln K' := by
  intro K'
  induction K' using Nat.strongRecOn with
  | _ K' ih =>
    intro K h
    rcases k_cases K with rfl | ⟨M, w, hw, rfl, hM⟩
    · rw [ln_0]; exact Nat.zero_le _
    · rcases k_cases K' with rfl | ⟨M', w', hw', rfl, hM'⟩
      · omega
      · rw [ln_s hw, ln_s hw']
        have := ih M' hM' M (by omega)
        omega
theorem ln_lt {K K' : Nat} (h : ln K < ln K') : K < K' := by
  rcases Nat.lt_or_ge K K' with q | q
  · exact q
  · have := ln_mono K K' q
    omega
theorem ln_pos {K : Nat} (h : 0 < ln K) : ∃ M w, w < 6 ∧ K = 6 * M + w + 1 := by
  rcases k_cases K with rfl | ⟨M, w, hw, e, -⟩
  · rw [ln_0] at h; omega
  · exact ⟨M, w, hw, e⟩
/-- from a to the goal by n words -/
def WN (g : Nat → Nat → Nat) (G : Nat → Prop) : Nat → Nat → Prop
  | 0, a => G a
  | n + 1, a => ∃ w, w < 6 ∧ WN g G n (g a w)
theorem WN_en {g : Nat → Nat → Nat} {G : Nat → Prop} {a0 : Nat} : ∀ (n K : Nat), WN g G n (en g a0 K) → ∃ K', ln K' = ln K + n ∧ G (en g a0 K') := by
  intro n
  induction n with
  | zero => intro K h; exact ⟨K, rfl, h⟩
  | succ n ih =>
    intro K h
    obtain ⟨w, hw, h⟩ := h
    rw [← en_s (g := g) (a0 := a0) (K := K) hw] at h
    obtain ⟨K', e, h'⟩ := ih _ h
    rw [ln_s hw] at e
    exact ⟨K', by omega, h'⟩
/-- a row cut back by r words -/
def ak : Nat → Nat → Nat
  | 0, K => K
  | r + 1, K => (ak r K - 1) / 6
theorem ak_ln : ∀ (r K : Nat), r ≤ ln K → ln (ak r K) = ln K - r := by
  intro r
  induction r with
  | zero => intro K _; rfl
  | succ r ih =>
    intro K h
    have e := ih K (by omega)
    obtain ⟨M, w, hw, eM⟩ := ln_pos (K := ak r K) (by omega)
    have : ak (r + 1) K = M := by rw [ak, eM]; omega
    rw [this]
    rw [eM, ln_s hw] at e
    omega
theorem ak_WN {g : Nat → Nat → Nat} {G : Nat → Prop} {a0 K : Nat} (hG : G (en g a0 K)) : ∀ r, r ≤ ln K → WN g G r (en g a0 (ak r K)) := by
  intro r
  induction r with
  | zero => intro _; exact hG
  | succ r ih =>
    intro h
    have e := ak_ln r K (by omega)
    obtain ⟨M, w, hw, eM⟩ := ln_pos (K := ak r K) (by omega)
    have e2 : ak (r + 1) K = M := by rw [ak, eM]; omega
    have h2 := ih (by omega)
    rw [eM, en_s hw] at h2
    rw [e2]
    exact ⟨w, hw, h2⟩
theorem en_WN {g : Nat → Nat → Nat} {G : Nat → Prop} {a0 K : Nat} (hG : G (en g a0 K)) : WN g G (ln K) a0 := by
  have h := ak_WN hG (ln K) (Nat.le_refl _)
  have e := ak_ln (ln K) K (Nat.le_refl _)
  rcases k_cases (ak (ln K) K) with z | ⟨M, w, hw, eM, -⟩
  · rw [z, en_0] at h; exact h
  · rw [eM, ln_s hw] at e; omega
/-- the least number of words from a to the goal is n -/
def LV (g : Nat → Nat → Nat) (G : Nat → Prop) (n a : Nat) : Prop := WN g G n a ∧ ∀ m, m < n → ¬ WN g G m a
/-- the step of the greedy row: Q is at or before every row to the goal of length D, cut back to Q's length -/
theorem greedy {g : Nat → Nat → Nat} {G : Nat → Prop} {a0 D Q r w : Nat} (hw : w < 6) (hD : ln Q + (r + 1) = D) (hl : LV g G (r + 1) (en g a0 Q)) (hm : LV g G r (g (en g a0 Q) w)) (hf : ∀ v, v < w → ¬ LV g G r (g (en g a0 Q) v)) (hQ : ∀ K, ln K = D → G (en g a0 K) → Q ≤ ak (r + 1) K) : ∀ K, ln K = D → G (en g a0 K) → 6 * Q + w + 1 ≤ ak r K := by
  intro K hK hG
  have h1 := hQ K hK hG
  have e := ak_ln r K (by omega)
  obtain ⟨M, v, hv, eM⟩ := ln_pos (K := ak r K) (by omega)
  have e2 : ak (r + 1) K = M := by rw [ak, eM]; omega
  rw [e2] at h1
  rcases Nat.lt_or_ge Q M with q | q
  · omega
  · have eQ : M = Q := by omega
    subst eQ
    have h2 := ak_WN hG r (by omega)
    rw [eM, en_s hv] at h2
    rcases Nat.lt_or_ge v w with z | z
    · refine absurd ⟨h2, fun m hm' hW => ?_⟩ (hf v z)
      exact hl.2 (m + 1) (by omega) ⟨v, hv, hW⟩
    · omega
/-- the least row to the goal -/
def LK (g : Nat → Nat → Nat) (G : Nat → Prop) (a0 K : Nat) : Prop := G (en g a0 K) ∧ ∀ K', G (en g a0 K') → K ≤ K'
theorem LK_uq {g : Nat → Nat → Nat} {G : Nat → Prop} {a0 K K' : Nat} (h : LK g G a0 K) (h' : LK g G a0 K') : K = K' := by
  have := h.2 K' h'.1
  have := h'.2 K h.1
  omega
theorem LK_LV {g : Nat → Nat → Nat} {G : Nat → Prop} {a0 K : Nat} (h : LK g G a0 K) : LV g G (ln K) a0 := by
  refine ⟨en_WN h.1, fun m hm hW => ?_⟩
  rw [show a0 = en g a0 0 from en_0.symm] at hW
  obtain ⟨K', e, hG⟩ := WN_en (g := g) (a0 := a0) m 0 (by rw [en_0] at hW ⊢; exact hW)
  rw [ln_0] at e
  have := ln_mono K' K (h.2 K' hG)
  omega
theorem LV_uq {g : Nat → Nat → Nat} {G : Nat → Prop} {a m n : Nat} (h : LV g G m a) (h' : LV g G n a) : m = n := by
  rcases Nat.lt_or_ge m n with q | q
  · exact absurd h.1 (h'.2 m q)
  · rcases Nat.lt_or_ge n m with z | z
    · exact absurd h'.1 (h.2 n z)
    · omega
/-- the greedy row's end -/
theorem greedy_LK {g : Nat → Nat → Nat} {G : Nat → Prop} {a0 D Q : Nat} (hD : ln Q = D) (h0 : LV g G D a0) (hG : G (en g a0 Q)) (hQ : ∀ K, ln K = D → G (en g a0 K) → Q ≤ ak 0 K) : LK g G a0 Q := by
  refine ⟨hG, fun K hK => ?_⟩
  rcases Nat.lt_trichotomy (ln K) D with q | q | q
  · exact absurd (en_WN hK) (h0.2 _ q)
  · exact hQ K q hK
  · exact Nat.le_of_lt (ln_lt (by omega))
/-! the passes of the reference -/
/-- after n passes -/
def PS (g : Nat → Nat → Nat) (G : Nat → Prop) (v : Nat → Int32) (n a : Nat) : Prop := (v a = -1 ∧ ∀ m, m ≤ n → ¬ WN g G m a) ∨ ∃ m, m ≤ n ∧ v a = nI m ∧ LV g G m a
theorem PS_lv {g : Nat → Nat → Nat} {G : Nat → Prop} {v : Nat → Int32} {n k a : Nat} (hn : n ≤ 200) (hk : k ≤ n) (h : PS g G v n a) : v a = nI k ↔ LV g G k a := by
  rcases h with ⟨e, h⟩ | ⟨m, hm, e, h⟩
  · refine ⟨fun z => absurd (z.symm.trans e) (nI_nm1 (by omega)), fun z => absurd z.1 (h k hk)⟩
  · rw [e]
    refine ⟨fun z => ?_, fun z => ?_⟩
    · have hm31 : m < 2 ^ 31 := by omega
      have hk31 : k < 2 ^ 31 := by omega
      have := (nI_eq hm31 hk31).mp z
      rw [← this]; exact h
    · rw [LV_uq h z]
theorem PS_no {g : Nat → Nat → Nat} {G : Nat → Prop} {v : Nat → Int32} {n a : Nat} (hn : n ≤ 200) (h : PS g G v n a) (e : v a = -1) : ∀ m, m ≤ n → ¬ WN g G m a := by
  rcases h with ⟨_, h⟩ | ⟨m, hm, e', h⟩
  · exact h
  · exact absurd (e'.symm.trans e) (nI_nm1 (by omega))
/-- an anger that has none yet -/
theorem PS_new {g : Nat → Nat → Nat} {G : Nat → Prop} {n a : Nat} (h : ∀ m, m ≤ n → ¬ WN g G m a) : (∃ w, w < 6 ∧ LV g G n (g a w)) ↔ LV g G (n + 1) a := by
  constructor
  · rintro ⟨w, hw, h1⟩
    exact ⟨⟨w, hw, h1.1⟩, fun m hm => h m (by omega)⟩
  · rintro ⟨⟨w, hw, h1⟩, h2⟩
    exact ⟨w, hw, h1, fun m hm hW => h2 (m + 1) (by omega) ⟨w, hw, hW⟩⟩
/-- a pass that finds none is the last -/
theorem PS_end {g : Nat → Nat → Nat} {G : Nat → Prop} {v : Nat → Int32} {n : Nat} (hn : n ≤ 200) (hg : ∀ a w, a < 100 → w < 6 → g a w < 100) (h : ∀ a, a < 100 → PS g G v n a) (hz : ∀ a, a < 100 → v a = -1 → ¬ WN g G (n + 1) a) : ∀ m a, a < 100 → WN g G m a → ∃ k, k ≤ n ∧ WN g G k a := by
  intro m
  induction m with
  | zero => intro a _ hW; exact ⟨0, Nat.zero_le _, hW⟩
  | succ m ih =>
    rintro a ha ⟨w, hw, hW⟩
    obtain ⟨k, hk, hW⟩ := ih _ (hg a w ha hw) hW
    rcases Nat.lt_or_ge k n with q | q
    · exact ⟨k + 1, q, w, hw, hW⟩
    · have ek : k = n := by omega
      subst ek
      rcases h a ha with ⟨e, _⟩ | ⟨j, hj, e, h1⟩
      · exact absurd ⟨w, hw, hW⟩ (hz a ha e)
      · exact ⟨j, hj, h1.1⟩
/-! sums -/
def sm (f : Nat → Nat) : Nat → Nat
  | 0 => 0
  | n + 1 => sm f n + f n
theorem sm_cong {f h : Nat → Nat} : ∀ n, (∀ a, a < n → f a = h a) → sm f n = sm h n := by
  intro n
  induction n with
  | zero => intro _; rfl
  | succ n ih =>
    intro e
    rw [sm, sm, ih (fun a ha => e a (by omega)), e n (by omega)]
theorem sm_one {f h : Nat → Nat} {a : Nat} (e : ∀ x, x ≠ a → h x = f x) : ∀ n, a < n → sm h n + f a = sm f n + h a := by
  intro n
  induction n with
  | zero => intro h; omega
  | succ n ih =>
    intro hn
    rw [sm, sm]
    by_cases q : a = n
    · subst q
      rw [sm_cong (f := h) (h := f) a (fun x hx => e x (by omega))]
      omega
    · have := ih (by omega)
      rw [e n (fun z => q z.symm)]
      omega
theorem sm_le {f : Nat → Nat} (hf : ∀ a, f a ≤ 1) : ∀ n, sm f n ≤ n := by
  intro n
  induction n with
  | zero => exact Nat.le_refl _
  | succ n ih => have := hf n; rw [sm]; omega
theorem sm_lt {f : Nat → Nat} (hf : ∀ a, f a ≤ 1) {n a : Nat} (ha : a < n) (h0 : f a = 0) : sm f n < n := by
  have h1 := sm_one (f := f) (h := fun x => if x = a then 1 else f x) (a := a) (fun x hx => if_neg hx) n ha
  have h2 := sm_le (f := fun x => if x = a then 1 else f x) (fun x => by show (if x = a then 1 else f x) ≤ 1; split; exact Nat.le_refl _; exact hf x) n
  rw [h0] at h1
  simp only [if_true] at h1
  omega
/-! the class's spread -/
def nn (v : Int32) : Nat := if v = -1 then 0 else 1
def BI (g : Nat → Nat → Nat) (a0 : Nat) (ord dp fr bw : Nat → Int32) (sz : Nat) (ks : Nat → Nat) : Prop :=
  (0 < sz ∧ sz ≤ 100 ∧ ks 0 = 0) ∧
  (∀ i, i < sz → ord i = nI (en g a0 (ks i))) ∧
  (∀ i j, i < j → j < sz → ks i < ks j) ∧
  (∀ i j, i < sz → j < sz → en g a0 (ks i) = en g a0 (ks j) → i = j) ∧
  (∀ a, a < 100 → (dp a = -1 ∧ ∀ i, i < sz → en g a0 (ks i) ≠ a) ∨ ∃ i, i < sz ∧ en g a0 (ks i) = a ∧ dp a = nI (ln (ks i))) ∧
  (∀ i, 0 < i → i < sz → ∃ j w, j < i ∧ w < 6 ∧ ks i = 6 * ks j + w + 1 ∧ bw (en g a0 (ks i)) = nI w ∧ fr (en g a0 (ks i)) = nI (en g a0 (ks j))) ∧
  sm (fun a => nn (dp a)) 100 = sz
def CV (g : Nat → Nat → Nat) (a0 sz : Nat) (ks : Nat → Nat) (B : Nat) : Prop := (∀ j, j < sz → ks j < B) ∧ ∀ K, K < B → ∃ j, j < sz ∧ en g a0 K = en g a0 (ks j) ∧ ks j ≤ K
theorem en_lt {g : Nat → Nat → Nat} {a0 : Nat} (hg : ∀ a w, a < 100 → w < 6 → g a w < 100) (h0 : a0 < 100) (K : Nat) : en g a0 K < 100 := by
  induction K using Nat.strongRecOn with
  | _ K ih =>
    rcases k_cases K with rfl | ⟨M, w, hw, rfl, hM⟩
    · rw [en_0]; exact h0
    · rw [en_s hw]; exact hg _ _ (ih M hM) hw
theorem BI.ln_le {g : Nat → Nat → Nat} {a0 sz : Nat} {ord dp fr bw : Nat → Int32} {ks : Nat → Nat} (h : BI g a0 ord dp fr bw sz ks) : ∀ i, i < sz → ln (ks i) ≤ i := by
  intro i
  induction i using Nat.strongRecOn with
  | _ i ih =>
    intro hi
    rcases Nat.eq_zero_or_pos i with rfl | q
    · rw [h.1.2.2, ln_0]; exact Nat.le_refl _
    · obtain ⟨j, w, hj, hw, e, -⟩ := h.2.2.2.2.2.1 i q hi
      have := ih j hj (by omega)
      rw [e, ln_s hw]
      omega
/-- an anger is met that has been met -/
theorem BI.old {g : Nat → Nat → Nat} {a0 sz : Nat} {ord dp fr bw : Nat → Int32} {ks : Nat → Nat} (h : BI g a0 ord dp fr bw sz ks) {B : Nat} (hB : en g a0 B < 100) (hc : CV g a0 sz ks B) (hd : ¬ dp (en g a0 B) = -1) : CV g a0 sz ks (B + 1) := by
  refine ⟨fun j hj => Nat.lt_succ_of_lt (hc.1 j hj), fun K hK => ?_⟩
  rcases Nat.lt_or_ge K B with q | q
  · exact hc.2 K q
  · have eK : K = B := by omega
    subst eK
    rcases h.2.2.2.2.1 _ hB with ⟨z, _⟩ | ⟨i, hi, e, _⟩
    · exact absurd z hd
    · exact ⟨i, hi, e.symm, Nat.le_of_lt (hc.1 i hi)⟩
theorem BI.room {g : Nat → Nat → Nat} {a0 sz : Nat} {ord dp fr bw : Nat → Int32} {ks : Nat → Nat} (h : BI g a0 ord dp fr bw sz ks) {a : Nat} (ha : a < 100) (hd : dp a = -1) : sz < 100 := by
  have := sm_lt (f := fun a => nn (dp a)) (fun a => by show nn (dp a) ≤ 1; unfold nn; split <;> decide) ha (by show nn (dp a) = 0; rw [hd]; rfl)
  rw [h.2.2.2.2.2.2] at this
  exact this
/-- an anger is met for the first time -/
theorem BI.new {g : Nat → Nat → Nat} {a0 sz : Nat} {ord dp fr bw : Nat → Int32} {ks : Nat → Nat} (h : BI g a0 ord dp fr bw sz ks) {i w : Nat} (hi : i < sz) (hw : w < 6) (hB : en g a0 (6 * ks i + w + 1) < 100) (hc : CV g a0 sz ks (6 * ks i + w + 1)) (hd : dp (en g a0 (6 * ks i + w + 1)) = -1) :
    BI g a0 (upd ord sz (nI (en g a0 (6 * ks i + w + 1)))) (upd dp (en g a0 (6 * ks i + w + 1)) (nI (ln (ks i) + 1))) (upd fr (en g a0 (6 * ks i + w + 1)) (nI (en g a0 (ks i)))) (upd bw (en g a0 (6 * ks i + w + 1)) (nI w)) (sz + 1) (fun j => if j = sz then 6 * ks i + w + 1 else ks j) ∧ CV g a0 (sz + 1) (fun j => if j = sz then 6 * ks i + w + 1 else ks j) (6 * ks i + w + 1 + 1) := by
  have hr := h.room hB hd
  have hll := h.ln_le i hi
  have hla := h.ln_le
  obtain ⟨⟨p0, p1, p2⟩, h2, h3, h4, h5, h6, h7⟩ := h
  have hne : ∀ j, j < sz → en g a0 (ks j) ≠ en g a0 (6 * ks i + w + 1) := by
    intro j hj
    rcases h5 _ hB with ⟨_, z⟩ | ⟨j', hj', e, z⟩
    · exact z j hj
    · exact absurd (z.symm.trans hd) (nI_nm1 (by have := hla j' hj'; omega))
  generalize eB : 6 * ks i + w + 1 = B at *
  have k1 : ∀ j, j < sz → (if j = sz then B else ks j) = ks j := fun j hj => if_neg (by omega)
  have k2 : (if sz = sz then B else ks sz) = B := if_pos rfl
  refine ⟨⟨⟨by omega, by omega, ?_⟩, ?_, ?_, ?_, ?_, ?_, ?_⟩, ?_, ?_⟩
  · show (if 0 = sz then B else ks 0) = 0
    rw [k1 0 p0]; exact p2
  · intro j hj
    show upd ord sz (nI (en g a0 B)) j = nI (en g a0 (if j = sz then B else ks j))
    by_cases e : j = sz
    · rw [e, upd_eq, k2]
    · rw [u_no e, k1 j (by omega)]; exact h2 j (by omega)
  · intro x y hxy hy
    show (if x = sz then B else ks x) < (if y = sz then B else ks y)
    rw [k1 x (by omega)]
    by_cases e : y = sz
    · rw [e, k2]; exact hc.1 x (by omega)
    · rw [k1 y (by omega)]; exact h3 x y hxy (by omega)
  · intro x y hx hy
    show en g a0 (if x = sz then B else ks x) = en g a0 (if y = sz then B else ks y) → x = y
    by_cases e : x = sz
    · by_cases e' : y = sz
      · intro _; omega
      · rw [e, k2, k1 y (by omega)]
        intro z; exact absurd z.symm (hne y (by omega))
    · by_cases e' : y = sz
      · rw [e', k2, k1 x (by omega)]
        intro z; exact absurd z (hne x (by omega))
      · rw [k1 x (by omega), k1 y (by omega)]
        exact h4 x y (by omega) (by omega)
  · intro a ha
    by_cases e : a = en g a0 B
    · right
      refine ⟨sz, by omega, ?_, ?_⟩
      · show en g a0 (if sz = sz then B else ks sz) = a
        rw [k2]; exact e.symm
      · show upd dp (en g a0 B) _ a = nI (ln (if sz = sz then B else ks sz))
        rw [e, upd_eq, k2, ← eB, ln_s hw]
    · rw [u_no e]
      rcases h5 a ha with ⟨z, z'⟩ | ⟨j, hj, z, z'⟩
      · left
        refine ⟨z, fun j hj => ?_⟩
        show en g a0 (if j = sz then B else ks j) ≠ a
        by_cases q : j = sz
        · rw [q, k2]; exact fun z => e z.symm
        · rw [k1 j (by omega)]; exact z' j (by omega)
      · right
        refine ⟨j, by omega, ?_, ?_⟩
        · show en g a0 (if j = sz then B else ks j) = a
          rw [k1 j hj]; exact z
        · show dp a = nI (ln (if j = sz then B else ks j))
          rw [k1 j hj]; exact z'
  · intro x hx0 hx
    show ∃ j w', j < x ∧ w' < 6 ∧ (if x = sz then B else ks x) = 6 * (if j = sz then B else ks j) + w' + 1 ∧ upd bw (en g a0 B) (nI w) (en g a0 (if x = sz then B else ks x)) = nI w' ∧ upd fr (en g a0 B) (nI (en g a0 (ks i))) (en g a0 (if x = sz then B else ks x)) = nI (en g a0 (if j = sz then B else ks j))
    by_cases e : x = sz
    · refine ⟨i, w, by omega, hw, ?_⟩
      rw [e, k2, k1 i hi, upd_eq, upd_eq]
      exact ⟨eB.symm, rfl, rfl⟩
    · obtain ⟨j, w', hj, hw', e1, e2, e3⟩ := h6 x hx0 (by omega)
      refine ⟨j, w', hj, hw', ?_⟩
      rw [k1 x (by omega), k1 j (by omega), u_no (hne x (by omega)), u_no (hne x (by omega))]
      exact ⟨e1, e2, e3⟩
  · have := sm_one (f := fun a => nn (dp a)) (h := fun a => nn (upd dp (en g a0 B) (nI (ln (ks i) + 1)) a)) (a := en g a0 B) (fun x hx => by show nn (upd dp (en g a0 B) _ x) = nn (dp x); rw [u_no hx]) 100 hB
    have n1 : nn (upd dp (en g a0 B) (nI (ln (ks i) + 1)) (en g a0 B)) = 1 := by
      rw [upd_eq]; unfold nn; exact if_neg (nI_nm1 (by omega))
    have n0 : nn (dp (en g a0 B)) = 0 := by rw [hd]; rfl
    rw [h7] at this
    simp only [n1, n0] at this
    omega
  · intro j hj
    show (if j = sz then B else ks j) < B + 1
    by_cases e : j = sz
    · rw [e, k2]; omega
    · rw [k1 j (by omega)]
      have := hc.1 j (by omega)
      omega
  · intro K hK
    rcases Nat.lt_or_ge K B with q | q
    · obtain ⟨j, hj, z, z'⟩ := hc.2 K q
      refine ⟨j, by omega, ?_⟩
      show en g a0 K = en g a0 (if j = sz then B else ks j) ∧ (if j = sz then B else ks j) ≤ K
      rw [k1 j hj]; exact ⟨z, z'⟩
    · refine ⟨sz, by omega, ?_⟩
      show en g a0 K = en g a0 (if sz = sz then B else ks sz) ∧ (if sz = sz then B else ks sz) ≤ K
      rw [k2, show K = B by omega]; exact ⟨rfl, Nat.le_refl _⟩
/-- on to the next in the order -/
theorem BI.next {g : Nat → Nat → Nat} {a0 sz : Nat} {ord dp fr bw : Nat → Int32} {ks : Nat → Nat} (h : BI g a0 ord dp fr bw sz ks) {i : Nat} (hi : i + 1 < sz) (hc : CV g a0 sz ks (6 * ks i + 5 + 1 + 1)) : (∀ K, K < 6 * ks (i + 1) + 1 → ∃ j, j < sz ∧ en g a0 K = en g a0 (ks j) ∧ ks j ≤ K) := by
  intro K hK
  rcases Nat.lt_or_ge K (6 * ks i + 5 + 1 + 1) with q | q
  · exact hc.2 K q
  · rcases k_cases K with rfl | ⟨M, v, hv, rfl, hM⟩
    · omega
    · have hM1 : M < ks (i + 1) := by omega
      have hM2 := hc.1 (i + 1) hi
      obtain ⟨j, hj, e, le⟩ := hc.2 M (by omega)
      have hji : j ≤ i := by
        rcases Nat.lt_or_ge i j with z | z
        · rcases Nat.eq_or_lt_of_le (show i + 1 ≤ j from z) with y | y
          · subst y; omega
          · have := h.2.2.1 (i + 1) j y hj
            omega
        · exact z
      have hkj : ks j ≤ ks i := by
        rcases Nat.eq_or_lt_of_le hji with y | y
        · rw [y]; exact Nat.le_refl _
        · exact Nat.le_of_lt (h.2.2.1 j i y (by omega))
      obtain ⟨j', hj', e', le'⟩ := hc.2 (6 * ks j + v + 1) (by omega)
      refine ⟨j', hj', ?_, by omega⟩
      rw [en_s hv, e, ← en_s (g := g) (a0 := a0) (K := ks j) hv]
      exact e'
theorem BI.all {g : Nat → Nat → Nat} {a0 sz : Nat} {ord dp fr bw : Nat → Int32} {ks : Nat → Nat} (h : BI g a0 ord dp fr bw sz ks) {i : Nat} (hi : i + 1 = sz) (hc : CV g a0 sz ks (6 * ks i + 5 + 1 + 1)) : ∀ K, ∃ j, j < sz ∧ en g a0 K = en g a0 (ks j) ∧ ks j ≤ K := by
  intro K
  induction K using Nat.strongRecOn with
  | _ K ih =>
    rcases k_cases K with rfl | ⟨M, v, hv, rfl, hM⟩
    · exact ⟨0, h.1.1, by rw [h.1.2.2], by rw [h.1.2.2]; exact Nat.le_refl _⟩
    · obtain ⟨j, hj, e, le⟩ := ih M hM
      have hkj : ks j ≤ ks i := by
        rcases Nat.eq_or_lt_of_le (show j ≤ i by omega) with y | y
        · rw [y]; exact Nat.le_refl _
        · exact Nat.le_of_lt (h.2.2.1 j i y (by omega))
      obtain ⟨j', hj', e', le'⟩ := hc.2 (6 * ks j + v + 1) (by omega)
      refine ⟨j', hj', ?_, by omega⟩
      rw [en_s hv, e, ← en_s (g := g) (a0 := a0) (K := ks j) hv]
      exact e'
/-- the first in the order that is a goal has the least row -/
theorem BI.LK {g : Nat → Nat → Nat} {G : Nat → Prop} {a0 sz : Nat} {ord dp fr bw : Nat → Int32} {ks : Nat → Nat} (h : BI g a0 ord dp fr bw sz ks) (ha : ∀ K, ∃ j, j < sz ∧ en g a0 K = en g a0 (ks j) ∧ ks j ≤ K) {j : Nat} (hj : j < sz) (hG : G (en g a0 (ks j))) (hf : ∀ i, i < j → ¬ G (en g a0 (ks i))) : LK g G a0 (ks j) := by
  refine ⟨hG, fun K hK => ?_⟩
  obtain ⟨i, hi, e, le⟩ := ha K
  rw [e] at hK
  rcases Nat.lt_or_ge i j with q | q
  · exact absurd hK (hf i q)
  · rcases Nat.eq_or_lt_of_le q with y | y
    · rw [y]; exact le
    · have := h.2.2.1 j i y hi
      omega
theorem no_WN {g : Nat → Nat → Nat} {G : Nat → Prop} {a0 sz : Nat} {ks : Nat → Nat} (ha : ∀ K, ∃ j, j < sz ∧ en g a0 K = en g a0 (ks j) ∧ ks j ≤ K) (hf : ∀ i, i < sz → ¬ G (en g a0 (ks i))) : ∀ n, ¬ WN g G n a0 := by
  intro n hW
  obtain ⟨K, -, hG⟩ := WN_en (g := g) (a0 := a0) n 0 (by rw [en_0]; exact hW)
  obtain ⟨j, hj, e, -⟩ := ha K
  rw [e] at hG
  exact hf j hj hG
