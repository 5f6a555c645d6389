/-! WHAT IS OWED OF A CALL: class and reference answer alike and come to the same state -/
/-- an answer of the kind that the method says -/
abbrev rty (M : mM) (r : Value) : Prop := match M.2.2.2 with
  | some .int => ∃ v : Int32, r = .int v
  | some .long => ∃ v : Int64, r = .long v
  | _ => False
def OpOK (E : mE) (d : Nat) (Mc Mm : mM) (as : List Value) (S : mA) (T n z : Nat) : Prop :=
  ∃ (r : Value) (S' : mA) (T' n' z' : Nat), rty Mc r ∧ WfS S' T' n' z' ∧
    (∀ (A : mA) (L : mJ) (Ph : mP), RC A S T n z → (∀ A' L', RC A' S' T' n' z' → (∀ k, 38 ≤ k → A' k = A k) → Ph (some r) A' L') → qC E Mc d (.ref 0 :: as) A L Ph) ∧
    (∀ (A : mA) (L : mJ) (Ph : mP), RM A S T → (∀ A' L', RM A' S' T' → (∀ k, k < 38 → A' k = A k) → Ph (some r) A' L') → qC E Mm d (.ref 38 :: as) A L Ph)
theorem RC.low {A A' S : mA} {T n z : Nat} (h : RC A S T n z) (hk : ∀ k, k < 38 → A' k = A k) : RC A' S T n z := by
  obtain ⟨h1, h2, h3, h4, h5, h6⟩ := h
  refine ⟨h1.fr (hk _ (by decide)) (hk _ (by decide)) (hk _ (by decide)) (hk _ (by decide)) (hk _ (by decide)) (hk _ (by decide)), by rw [hk 0 (by decide)]; exact h2, fun a n' b c => (h3 a n' b c).fr (hk _ (by decide)) (hk _ (by decide)) (hk _ (by decide)) (hk _ (by decide)) (hk _ (by decide)) (hk _ (by decide)), ?_, ?_, ?_⟩
  · unfold RCt at *
    rw [hk 3 (by decide), hk 22 (by decide), hk 23 (by decide)]
    exact h4
  · rw [hk 4 (by decide), hk 25 (by decide)]
    exact h5
  · intro s hs
    rw [hk (8 + s) (by omega), hk (34 + s) (by omega)]
    exact h6 s hs
theorem RM.high {A A' S : mA} {T : Nat} (h : RM A S T) (hk : ∀ k, 38 ≤ k → A' k = A k) : RM A' S T := by
  unfold RM at *
  rw [hk 39 (by decide), hk 40 (by decide), hk 38 (by decide), hk 41 (by decide), hk 42 (by decide), hk 43 (by decide), hk 53 (by decide), hk 54 (by decide), hk 55 (by decide), hk 44 (by decide), hk 57 (by decide)]
  exact h
theorem Fr.hi {X : List Nat} {A A' : mA} (h : Fr X A A') (hX : ∀ k, k ∈ X → k < 38) : ∀ k, 38 ≤ k → A' k = A k := fun k hk => h k (fun z => by have := hX k z; omega)
theorem Fr.lo {X : List Nat} {A A' : mA} (h : Fr X A A') (hX : ∀ k, k ∈ X → 38 ≤ k) : ∀ k, k < 38 → A' k = A k := fun k hk => h k (fun z => by have := hX k z; omega)
theorem TXv.now {S S' : mA} {r : Nat} {e : Nat → Nat} (h : TXv S r e) (h42 : S' 42 = S 42) (h43 : S' 43 = S 43) : TXv S' r e := by
  unfold TXv at *
  rw [h42, h43]
  exact h
/-- a change of the scene alone -/
theorem WfS.now {S S' : mA} {T n n' z : Nat} (h : WfS S T n z) (hS : ∀ k, k ≠ 39 → S' k = S k) (hN : WfN (S' 39) T n') : WfS S' T n' z := by
  obtain ⟨h1, h2, h3, h4, h5, h6, h7, h8⟩ := h
  refine ⟨h1, h2, by rw [hS 38 (by decide)]; exact h3, fun r hr => ?_, hN, by rw [hS 38 (by decide), hS 40 (by decide)]; exact h6, by rw [hS 38 (by decide), hS 41 (by decide)]; exact h7, by rw [hS 53 (by decide), hS 54 (by decide)]; exact h8⟩
  obtain ⟨e, he⟩ := h4 r hr
  exact ⟨e, he.now (hS 42 (by decide)) (hS 43 (by decide))⟩
theorem RC.now {A A' S S' : mA} {T n n' z : Nat} (h : RC A S T n z) (hS : ∀ k, k ≠ 39 → S' k = S k) (hA : Fr [1, 12, 13, 14, 15, 16] A A') (hN : RCn A' 1 12 (S' 39) n') : RC A' S' T n' z := by
  obtain ⟨h1, h2, h3, h4, h5, h6⟩ := h
  refine ⟨hN, by rw [hA 0 (by decide), hS 38 (by decide)]; exact h2, ?_, ?_, ?_, ?_⟩
  · rw [hS 38 (by decide), hS 40 (by decide)]
    exact fun a n' b c => (h3 a n' b c).fr (hA _ (by decide)) (hA _ (by decide)) (hA _ (by decide)) (hA _ (by decide)) (hA _ (by decide)) (hA _ (by decide))
  · unfold RCt pe at *
    rw [hA 3 (by decide), hA 22 (by decide), hA 23 (by decide), hS 38 (by decide), hS 42 (by decide), hS 43 (by decide)]
    exact h4
  · rw [hA 4 (by decide), hA 25 (by decide), hS 38 (by decide), hS 41 (by decide)]
    exact h5
  · intro s hs
    rw [hS 53 (by decide), hS 54 (by decide), hS 55 (by decide), hA (8 + s) (by simp; omega), hA (34 + s) (by simp; omega)]
    exact h6 s hs
theorem RM.now {A A' S S' : mA} {T : Nat} (h : RM A S T) (hS : ∀ k, k ≠ 39 → S' k = S k) (hA : Fr [39] A A') (h39 : A' 39 = S' 39) : RM A' S' T := by
  unfold RM pe at *
  rw [h39, hA 40 (by decide), hA 38 (by decide), hA 41 (by decide), hA 42 (by decide), hA 43 (by decide), hA 53 (by decide), hA 54 (by decide), hA 55 (by decide), hA 44 (by decide), hA 57 (by decide), hS 40 (by decide), hS 38 (by decide), hS 41 (by decide), hS 42 (by decide), hS 43 (by decide), hS 53 (by decide), hS 54 (by decide), hS 55 (by decide)]
  exact ⟨rfl, h.2⟩
section TFS
variable {E : mE} {d : Nat} {A : mA} {L : mJ} {Ph : mP}
theorem win_t {j lim : Nat} {u : Int32} (hu : u = nI lim) (hl : lim < 2 ^ 31) (hj : j < lim) (h : Ph (some (.int 1)) A L) : qC E mm_X6_within d [.int (nI j), .int u] A L Ph := sp_X6_within lim hu hl (fun _ _ _ => h) (fun z => absurd rfl (z j hj))
theorem win_f {v u : Int32} (lim : Nat) (hu : u = nI lim) (hl : lim < 2 ^ 31) (hv : ∀ j, j < lim → v ≠ nI j) (h : Ph (some (.int 0)) A L) : qC E mm_X6_within d [.int v, .int u] A L Ph := sp_X6_within lim hu hl (fun j hj e => absurd e (hv j hj)) (fun _ => h)
theorem in_t {j lim : Nat} {lo hi : Int32} (hlo : lo = 0) (hu : hi = nI lim - 1) (hl : lim < 2 ^ 31) (hj : j < lim) (h : Ph (some (.int 1)) A L) : qC E mm_X7_isIn d [.int (nI j), .int lo, .int hi] A L Ph := sp_isIn0 lim hlo hu hl (fun _ _ _ => h) (fun z => absurd rfl (z j hj))
theorem in_f {v lo hi : Int32} (lim : Nat) (hlo : lo = 0) (hu : hi = nI lim - 1) (hl : lim < 2 ^ 31) (hv : ∀ j, j < lim → v ≠ nI j) (h : Ph (some (.int 0)) A L) : qC E mm_X7_isIn d [.int v, .int lo, .int hi] A L Ph := sp_isIn0 lim hlo hu hl (fun j hj e => absurd e (hv j hj)) (fun _ => h)
theorem has_t {n p : Nat} (hE : hC E) (hn : n ≤ 5) (h5 : A 1 5 = nI n) (hp : p < n) (h : Ph (some (.int 1)) A L) : qC E mm_X2_has (d + 1) [.ref 1, .int (nI p)] A L Ph := sp_X2_has hE n hn h5 (fun _ _ _ => h) (fun z => absurd rfl (z p hp))
theorem has_f {v : Int32} {n : Nat} (hE : hC E) (hn : n ≤ 5) (h5 : A 1 5 = nI n) (hv : ∀ p, p < n → v ≠ nI p) (h : Ph (some (.int 0)) A L) : qC E mm_X2_has (d + 1) [.ref 1, .int v] A L Ph := sp_X2_has hE n hn h5 (fun p hp e => absurd e (hv p hp)) (fun _ => h)
theorem isP_t {n p : Nat} (hE : hM E) (hn : n ≤ 5) (h5 : A 39 60 = nI n) (hp : p < n) (h : Ph (some (.int 1)) A L) : qC E mm_X7_isPair (d + 1) [.ref 38, .int (nI p)] A L Ph := sp_X7_isPair hE n hn h5 (fun _ _ _ => h) (fun z => absurd rfl (z p hp))
theorem isP_f {v : Int32} {n : Nat} (hE : hM E) (hn : n ≤ 5) (h5 : A 39 60 = nI n) (hv : ∀ p, p < n → v ≠ nI p) (h : Ph (some (.int 0)) A L) : qC E mm_X7_isPair (d + 1) [.ref 38, .int v] A L Ph := sp_X7_isPair hE n hn h5 (fun p hp e => absurd e (hv p hp)) (fun _ => h)
end TFS
theorem u_no {f : Nat → Int32} {k j : Nat} {x : Int32} (h : j ≠ k) : upd f k x j = f j := upd_no h
/-- scenes with one number changed -/
theorem WfN.hour {f : Nat → Int32} {T n h : Nat} (hN : WfN f T n) (hh : h < 100) : WfN (upd f 61 (nI h)) T n := by
  obtain ⟨h1, h2, h3, h4, h5, h6⟩ := hN
  refine ⟨h1, by rw [u_no (by decide)]; exact h2, ⟨h, hh, upd_eq⟩, by rw [u_no (by decide)]; exact h4, fun p hp => ?_, fun i hi => by rw [u_no (by omega)]; exact h6 i hi⟩
  rw [u_no (by omega), u_no (by omega), u_no (by omega), u_no (by omega)]
  exact h5 p hp
theorem WfN.rule {f : Nat → Int32} {T n r : Nat} (hN : WfN f T n) (hr : r < T) : WfN (upd f 62 (nI r)) T n := by
  obtain ⟨h1, h2, h3, h4, h5, h6⟩ := hN
  refine ⟨h1, by rw [u_no (by decide)]; exact h2, by rw [u_no (by decide)]; exact h3, ⟨r, hr, upd_eq⟩, fun p hp => ?_, fun i hi => by rw [u_no (by omega)]; exact h6 i hi⟩
  rw [u_no (by omega), u_no (by omega), u_no (by omega), u_no (by omega)]
  exact h5 p hp
theorem WfN.thing {f : Nat → Int32} {T n j t : Nat} (hN : WfN f T n) (hj : j < 40) (ht : t < 8) : WfN (upd f j (nI t)) T n := by
  obtain ⟨h1, h2, h3, h4, h5, h6⟩ := hN
  refine ⟨h1, by rw [u_no (by omega)]; exact h2, by rw [u_no (by omega)]; exact h3, by rw [u_no (by omega)]; exact h4, fun p hp => ?_, fun i hi => ?_⟩
  · rw [u_no (by omega), u_no (by omega), u_no (by omega), u_no (by omega)]
    exact h5 p hp
  · by_cases e : i = j
    · subst e; rw [upd_eq]; exact ⟨t, ht, rfl⟩
    · rw [u_no e]; exact h6 i hi
/-- a number of a pair: q is 40 kind, 41 number, 42 anger, 43 told -/
theorem WfN.of {f : Nat → Int32} {T n p q v : Nat} (hN : WfN f T n) (hp : p < n) (hq : (q = 41 ∧ v < 10) ∨ (q = 42 ∧ v < 100) ∨ (q = 43 ∧ v < 10000)) : WfN (upd f (q + 4 * p) (nI v)) T n := by
  obtain ⟨h1, h2, h3, h4, h5, h6⟩ := hN
  refine ⟨h1, by rw [u_no (by omega)]; exact h2, by rw [u_no (by omega)]; exact h3, by rw [u_no (by omega)]; exact h4, fun p' hp' => ?_, fun i hi => by rw [u_no (by omega)]; exact h6 i hi⟩
  obtain ⟨a, b, c, e⟩ := h5 p' hp'
  rw [u_no (by omega)]
  refine ⟨a, ?_, ?_, ?_⟩
  · by_cases z : 41 + 4 * p' = q + 4 * p
    · rw [z, upd_eq]; exact ⟨v, by omega, rfl⟩
    · rw [u_no z]; exact b
  · by_cases z : 42 + 4 * p' = q + 4 * p
    · rw [z, upd_eq]; exact ⟨v, by omega, rfl⟩
    · rw [u_no z]; exact c
  · by_cases z : 43 + 4 * p' = q + 4 * p
    · rw [z, upd_eq]; exact ⟨v, by omega, rfl⟩
    · rw [u_no z]; exact e
theorem s2_39 {S : mA} {j : Nat} {v : Int32} : ∀ k, k ≠ 39 → s2 S 39 j v k = S k := fun _ h => s2_ne h
/-- the class's scene with one number changed -/
theorem RCn.hour {A : mA} {f : Nat → Int32} {n : Nat} {v : Int32} (h : RCn A 1 12 f n) (hn : n ≤ 5) : RCn (s2 A 1 6 v) 1 12 (upd f 61 v) n := by
  obtain ⟨h1, h2, h3, h4, h5⟩ := h
  refine ⟨fun i hi => by rw [s2_ne (by decide), u_no (by omega)]; exact h1 i hi, fun p hp => ?_, by rw [s2_nj (fun _ => by decide), u_no (by decide)]; exact h3, by rw [s2_same, upd_eq], by rw [s2_nj (fun _ => by decide), u_no (by decide)]; exact h5⟩
  rw [s2_ne (by decide), s2_ne (by decide), s2_ne (by decide), s2_ne (by decide), u_no (by omega), u_no (by omega), u_no (by omega), u_no (by omega)]
  exact h2 p hp
theorem RCn.rule {A : mA} {f : Nat → Int32} {n : Nat} {v : Int32} (h : RCn A 1 12 f n) (hn : n ≤ 5) : RCn (s2 A 1 7 v) 1 12 (upd f 62 v) n := by
  obtain ⟨h1, h2, h3, h4, h5⟩ := h
  refine ⟨fun i hi => by rw [s2_ne (by decide), u_no (by omega)]; exact h1 i hi, fun p hp => ?_, by rw [s2_nj (fun _ => by decide), u_no (by decide)]; exact h3, by rw [s2_nj (fun _ => by decide), u_no (by decide)]; exact h4, by rw [s2_same, upd_eq]⟩
  rw [s2_ne (by decide), s2_ne (by decide), s2_ne (by decide), s2_ne (by decide), u_no (by omega), u_no (by omega), u_no (by omega), u_no (by omega)]
  exact h2 p hp
theorem RCn.thing {A : mA} {f : Nat → Int32} {n j : Nat} {v : Int32} (h : RCn A 1 12 f n) (hn : n ≤ 5) (hj : j < 40) : RCn (s2 A 12 j v) 1 12 (upd f j v) n := by
  obtain ⟨h1, h2, h3, h4, h5⟩ := h
  refine ⟨fun i hi => ?_, fun p hp => ?_, by rw [s2_ne (by decide), u_no (by omega)]; exact h3, by rw [s2_ne (by decide), u_no (by omega)]; exact h4, by rw [s2_ne (by decide), u_no (by omega)]; exact h5⟩
  · by_cases e : i = j
    · subst e; rw [s2_same, upd_eq]
    · rw [s2_nj (fun _ => e), u_no e]; exact h1 i hi
  · rw [s2_ne (by decide), s2_ne (by decide), s2_ne (by decide), s2_ne (by decide), u_no (by omega), u_no (by omega), u_no (by omega), u_no (by omega)]
    exact h2 p hp
theorem RCn.of {A : mA} {f : Nat → Int32} {n p q : Nat} {v : Int32} (h : RCn A 1 12 f n) (hn : n ≤ 5) (hp : p < n) (hq : q = 1 ∨ q = 2 ∨ q = 3) : RCn (s2 A (13 + q) p v) 1 12 (upd f (40 + q + 4 * p) v) n := by
  obtain ⟨h1, h2, h3, h4, h5⟩ := h
  refine ⟨fun i hi => by rw [s2_ne (by omega), u_no (by omega)]; exact h1 i hi, fun p' hp' => ?_, by rw [s2_ne (by omega), u_no (by omega)]; exact h3, by rw [s2_ne (by omega), u_no (by omega)]; exact h4, by rw [s2_ne (by omega), u_no (by omega)]; exact h5⟩
  obtain ⟨a, b, c, e⟩ := h2 p' hp'
  rw [s2_ne (by omega), u_no (by omega)]
  refine ⟨a, ?_, ?_, ?_⟩
  · by_cases z : q = 1 ∧ p' = p
    · obtain ⟨rfl, rfl⟩ := z; rw [s2_same, upd_eq]
    · rw [s2_nj (fun _ => by omega), u_no (by omega)]; exact b
  · by_cases z : q = 2 ∧ p' = p
    · obtain ⟨rfl, rfl⟩ := z; rw [s2_same, upd_eq]
    · rw [s2_nj (fun _ => by omega), u_no (by omega)]; exact c
  · by_cases z : q = 3 ∧ p' = p
    · obtain ⟨rfl, rfl⟩ := z; rw [s2_same, upd_eq]
    · rw [s2_nj (fun _ => by omega), u_no (by omega)]; exact e
theorem nI_nm1 {k : Nat} (h : k < 2 ^ 31) : ¬ nI k = -1 := by
  have e := nI_toInt h
  have e2 : (-1 : Int32).toInt = -1 := by decide
  rw [i_eq]
  omega
