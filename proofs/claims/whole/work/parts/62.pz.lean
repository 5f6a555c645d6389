/-! THE GRAMMAR, as the class reads it: kinds 0 .. 3 chains, 4 a denial, 5 a one, 10 .. 13 the rests of chains -/
def jn (l : Nat) (t : Int32) : Bool := if l = 0 then decide (t = 9) else if l = 1 then decide (t = 10) else if l = 2 then decide (t = 43 ∨ t = 45) else decide (t = 42)
def dO (t : Int32) : Int32 := if t = 9 then -20 else if t = 10 then -21 else if t = 60 then -23 else if t = 61 then -24 else if t = 43 then -25 else if t = 45 then -26 else -27
def lk (l : Nat) : Nat := if l = 0 then 1 else if l = 1 then 4 else if l = 2 then 3 else 5
abbrev rsT : Type := Nat ⊕ (Nat × List Int32)
def pz (tk am : Nat → Int32) : Nat → Nat → Nat → Nat → rsT
  | 0, _, _, i => .inl i
  | f + 1, k, op, i =>
    if k < 4 then
      match pz tk am f (lk k) op i with
      | .inl j => .inl j
      | .inr (j, c) => match pz tk am f (k + 10) op j with
        | .inl j' => .inl j'
        | .inr (j', c') => .inr (j', c ++ c')
    else if k = 4 then
      if tk i = 11 ∧ op < 5 then
        match pz tk am f 4 (op + 1) (i + 1) with
        | .inl j => .inl j
        | .inr (j, c) => .inr (j, c ++ [-22])
      else match pz tk am f 2 op i with
        | .inl j => .inl j
        | .inr (j, c) =>
          if tk j = 60 ∨ tk j = 61 then
            match pz tk am f 2 op (j + 1) with
            | .inl j' => .inl j'
            | .inr (j', c') => .inr (j', c ++ (c' ++ [dO (tk j)]))
          else .inr (j, c)
    else if k = 5 then
      if tk i = 300 then .inr (i + 1, [am i])
      else if 0 ≤ tk i ∧ tk i < 6 then .inr (i + 1, [-10 - tk i])
      else if tk i = 45 ∧ op < 5 then
        match pz tk am f 5 (op + 1) (i + 1) with
        | .inl j => .inl j
        | .inr (j, c) => .inr (j, c ++ [-28])
      else if tk i = 40 ∧ op < 5 then
        match pz tk am f 0 (op + 1) (i + 1) with
        | .inl j => .inl j
        | .inr (j, c) => if tk j = 41 then .inr (j + 1, c) else .inl j
      else .inl i
    else
      if jn (k - 10) (tk i) = true then
        match pz tk am f (lk (k - 10)) op (i + 1) with
        | .inl j => .inl j
        | .inr (j, c) => match pz tk am f k op j with
          | .inl j' => .inl j'
          | .inr (j', c') => .inr (j', c ++ (dO (tk i) :: c'))
      else .inr (i, [])
section PZ
variable {tk am : Nat → Int32} {f k op i j j' : Nat} {c c' : List Int32}
theorem pz_c0 (hk : k < 4) (h : pz tk am f (lk k) op i = .inl j) : pz tk am (f + 1) k op i = .inl j := by
  rw [pz, if_pos hk, h]
theorem pz_c1 (hk : k < 4) (h : pz tk am f (lk k) op i = .inr (j, c)) (h2 : pz tk am f (k + 10) op j = .inl j') : pz tk am (f + 1) k op i = .inl j' := by
  rw [pz, if_pos hk, h]
  simp only [h2]
theorem pz_c2 (hk : k < 4) (h : pz tk am f (lk k) op i = .inr (j, c)) (h2 : pz tk am f (k + 10) op j = .inr (j', c')) : pz tk am (f + 1) k op i = .inr (j', c ++ c') := by
  rw [pz, if_pos hk, h]
  simp only [h2]
theorem pz_n0 (ht : tk i = 11 ∧ op < 5) (h : pz tk am f 4 (op + 1) (i + 1) = .inl j) : pz tk am (f + 1) 4 op i = .inl j := by
  rw [pz, if_neg (by decide), if_pos rfl, if_pos ht, h]
theorem pz_n1 (ht : tk i = 11 ∧ op < 5) (h : pz tk am f 4 (op + 1) (i + 1) = .inr (j, c)) : pz tk am (f + 1) 4 op i = .inr (j, c ++ [-22]) := by
  rw [pz, if_neg (by decide), if_pos rfl, if_pos ht, h]
theorem pz_d0 (ht : ¬ (tk i = 11 ∧ op < 5)) (h : pz tk am f 2 op i = .inl j) : pz tk am (f + 1) 4 op i = .inl j := by
  rw [pz, if_neg (by decide), if_pos rfl, if_neg ht, h]
theorem pz_d1 (ht : ¬ (tk i = 11 ∧ op < 5)) (h : pz tk am f 2 op i = .inr (j, c)) (hc : ¬ (tk j = 60 ∨ tk j = 61)) : pz tk am (f + 1) 4 op i = .inr (j, c) := by
  rw [pz, if_neg (by decide), if_pos rfl, if_neg ht, h]
  simp only [if_neg hc]
theorem pz_d2 (ht : ¬ (tk i = 11 ∧ op < 5)) (h : pz tk am f 2 op i = .inr (j, c)) (hc : tk j = 60 ∨ tk j = 61) (h2 : pz tk am f 2 op (j + 1) = .inl j') : pz tk am (f + 1) 4 op i = .inl j' := by
  rw [pz, if_neg (by decide), if_pos rfl, if_neg ht, h]
  simp only [if_pos hc, h2]
theorem pz_d3 (ht : ¬ (tk i = 11 ∧ op < 5)) (h : pz tk am f 2 op i = .inr (j, c)) (hc : tk j = 60 ∨ tk j = 61) (h2 : pz tk am f 2 op (j + 1) = .inr (j', c')) : pz tk am (f + 1) 4 op i = .inr (j', c ++ (c' ++ [dO (tk j)])) := by
  rw [pz, if_neg (by decide), if_pos rfl, if_neg ht, h]
  simp only [if_pos hc, h2]
theorem pz_o1 (h1 : tk i = 300) : pz tk am (f + 1) 5 op i = .inr (i + 1, [am i]) := by
  rw [pz, if_neg (by decide), if_neg (by decide), if_pos rfl, if_pos h1]
theorem pz_o2 (h1 : ¬ tk i = 300) (h2 : 0 ≤ tk i ∧ tk i < 6) : pz tk am (f + 1) 5 op i = .inr (i + 1, [-10 - tk i]) := by
  rw [pz, if_neg (by decide), if_neg (by decide), if_pos rfl, if_neg h1, if_pos h2]
theorem pz_o3 (h1 : ¬ tk i = 300) (h2 : ¬ (0 ≤ tk i ∧ tk i < 6)) (h3 : tk i = 45 ∧ op < 5) (h : pz tk am f 5 (op + 1) (i + 1) = .inl j) : pz tk am (f + 1) 5 op i = .inl j := by
  rw [pz, if_neg (by decide), if_neg (by decide), if_pos rfl, if_neg h1, if_neg h2, if_pos h3, h]
theorem pz_o4 (h1 : ¬ tk i = 300) (h2 : ¬ (0 ≤ tk i ∧ tk i < 6)) (h3 : tk i = 45 ∧ op < 5) (h : pz tk am f 5 (op + 1) (i + 1) = .inr (j, c)) : pz tk am (f + 1) 5 op i = .inr (j, c ++ [-28]) := by
  rw [pz, if_neg (by decide), if_neg (by decide), if_pos rfl, if_neg h1, if_neg h2, if_pos h3, h]
theorem pz_o5 (h1 : ¬ tk i = 300) (h2 : ¬ (0 ≤ tk i ∧ tk i < 6)) (h3 : ¬ (tk i = 45 ∧ op < 5)) (h4 : tk i = 40 ∧ op < 5) (h : pz tk am f 0 (op + 1) (i + 1) = .inl j) : pz tk am (f + 1) 5 op i = .inl j := by
  rw [pz, if_neg (by decide), if_neg (by decide), if_pos rfl, if_neg h1, if_neg h2, if_neg h3, if_pos h4, h]
theorem pz_o6 (h1 : ¬ tk i = 300) (h2 : ¬ (0 ≤ tk i ∧ tk i < 6)) (h3 : ¬ (tk i = 45 ∧ op < 5)) (h4 : tk i = 40 ∧ op < 5) (h : pz tk am f 0 (op + 1) (i + 1) = .inr (j, c)) (h5 : ¬ tk j = 41) : pz tk am (f + 1) 5 op i = .inl j := by
  rw [pz, if_neg (by decide), if_neg (by decide), if_pos rfl, if_neg h1, if_neg h2, if_neg h3, if_pos h4, h]
  simp only [if_neg h5]
theorem pz_o7 (h1 : ¬ tk i = 300) (h2 : ¬ (0 ≤ tk i ∧ tk i < 6)) (h3 : ¬ (tk i = 45 ∧ op < 5)) (h4 : tk i = 40 ∧ op < 5) (h : pz tk am f 0 (op + 1) (i + 1) = .inr (j, c)) (h5 : tk j = 41) : pz tk am (f + 1) 5 op i = .inr (j + 1, c) := by
  rw [pz, if_neg (by decide), if_neg (by decide), if_pos rfl, if_neg h1, if_neg h2, if_neg h3, if_pos h4, h]
  simp only [if_pos h5]
theorem pz_o8 (h1 : ¬ tk i = 300) (h2 : ¬ (0 ≤ tk i ∧ tk i < 6)) (h3 : ¬ (tk i = 45 ∧ op < 5)) (h4 : ¬ (tk i = 40 ∧ op < 5)) : pz tk am (f + 1) 5 op i = .inl i := by
  rw [pz, if_neg (by decide), if_neg (by decide), if_pos rfl, if_neg h1, if_neg h2, if_neg h3, if_neg h4]
theorem pz_t0 (ht : ¬ jn k (tk i) = true) : pz tk am (f + 1) (k + 10) op i = .inr (i, []) := by
  rw [pz, if_neg (by omega), if_neg (by omega), if_neg (by omega), Nat.add_sub_cancel, if_neg ht]
theorem pz_t1 (ht : jn k (tk i) = true) (h : pz tk am f (lk k) op (i + 1) = .inl j) : pz tk am (f + 1) (k + 10) op i = .inl j := by
  rw [pz, if_neg (by omega), if_neg (by omega), if_neg (by omega), Nat.add_sub_cancel, if_pos ht, h]
theorem pz_t2 (ht : jn k (tk i) = true) (h : pz tk am f (lk k) op (i + 1) = .inr (j, c)) (h2 : pz tk am f (k + 10) op j = .inl j') : pz tk am (f + 1) (k + 10) op i = .inl j' := by
  rw [pz, if_neg (by omega), if_neg (by omega), if_neg (by omega), Nat.add_sub_cancel, if_pos ht, h]
  simp only [h2]
theorem pz_t3 (ht : jn k (tk i) = true) (h : pz tk am f (lk k) op (i + 1) = .inr (j, c)) (h2 : pz tk am f (k + 10) op j = .inr (j', c')) : pz tk am (f + 1) (k + 10) op i = .inr (j', c ++ (dO (tk i) :: c')) := by
  rw [pz, if_neg (by omega), if_neg (by omega), if_neg (by omega), Nat.add_sub_cancel, if_pos ht, h]
  simp only [h2]
theorem rs_cases (r : rsT) : (∃ j, r = .inl j) ∨ ∃ j c, r = .inr (j, c) := by
  rcases r with j | ⟨j, c⟩
  · exact Or.inl ⟨j, rfl⟩
  · exact Or.inr ⟨j, c, rfl⟩
end PZ
/-- rows of signs: from m numbers to m' -/
def tkn : List Int32 → Nat → Nat → Prop
  | [], m, m' => m = m'
  | x :: c, m, m' => VC x ∧ ∃ m1, rdp x m = some m1 ∧ tkn c m1 m'
theorem tkn_app : ∀ {c c' : List Int32} {m m1 m2 : Nat}, tkn c m m1 → tkn c' m1 m2 → tkn (c ++ c') m m2
  | [], _, _, _, _, h, h2 => by
    have h : _ = _ := h
    subst h
    exact h2
  | x :: c, c', m, m1, m2, h, h2 => by
    obtain ⟨a, q, b, e⟩ := h
    exact ⟨a, q, b, tkn_app e h2⟩
theorem tkn_num {x : Int32} {v m : Nat} (hv : v < 10000) (e : x = nI v) : tkn [x] m (m + 1) := by
  subst e
  exact ⟨Or.inl ⟨v, hv, rfl⟩, m + 1, rdp_num hv, rfl⟩
theorem tkn_nm {k m : Nat} (hk : k < 6) : tkn [nmc k] m (m + 1) := ⟨Or.inr (Or.inl ⟨k, hk, rfl⟩), m + 1, rdp_nm hk, rfl⟩
theorem tkn_un {x : Int32} {m : Nat} (h : x = -22 ∨ x = -28) : tkn [x] (m + 1) (m + 1) := by
  refine ⟨by rcases h with rfl | rfl; exact Or.inr (Or.inr (Or.inl rfl)); exact Or.inr (Or.inr (Or.inr (Or.inl rfl))), m + 1, ?_, rfl⟩
  rw [rdp_un h, if_neg (by omega)]
theorem tkn_bop {x : Int32} {m : Nat} (h : bop x) : tkn [x] (m + 2) (m + 1) := by
  refine ⟨Or.inr (Or.inr (Or.inr (Or.inr h))), m + 1, ?_, rfl⟩
  rw [rdp_bop h, if_neg (by omega)]
  rfl
theorem dO_bop (t : Int32) : bop (dO t) := by
  unfold dO bop
  repeat (split; simp)
  simp
theorem rok_of {g : Nat → Int32} : ∀ {c : List Int32} {s m : Nat}, tkn c m 1 → (∀ j, j < c.length → g (s + j) = c.getD j 0) → rok g s c.length m
  | [], s, m, h, _ => h
  | x :: c, s, m, h, hg => by
    obtain ⟨a, m1, b, e⟩ := h
    have h0 : g s = x := hg 0 (Nat.zero_lt_succ _)
    refine ⟨by rw [h0]; exact a, m1, by rw [h0]; exact b, rok_of e (fun j hj => ?_)⟩
    have := hg (j + 1) (Nat.succ_lt_succ hj)
    rw [show s + 1 + j = s + (j + 1) by omega]
    exact this
/-- what a good reading gives -/
theorem pz_ok {tk am : Nat → Int32} {vl : Nat → Prop} (hv : ∀ i, vl i → tk i ≠ 301 → vl (i + 1)) (ha : ∀ i, tk i = 300 → ∃ v, v < 10000 ∧ am i = nI v) : ∀ (f k op i j : Nat) (c : List Int32), k ≤ 5 ∨ 10 ≤ k → pz tk am f k op i = .inr (j, c) → vl i → vl j ∧ i ≤ j ∧ (k < 10 → i < j) ∧ c.length ≤ j - i ∧ (k < 10 → ∀ m, tkn c m (m + 1)) ∧ (10 ≤ k → ∀ m, tkn c (m + 1) (m + 1)) := by
  intro f
  induction f with
  | zero => intro k op i j c hk h; cases h
  | succ f ih =>
    intro k op i j c hk h hi
    by_cases k4 : k < 4
    · have hlk5 : lk k ≤ 5 := by unfold lk; split; decide; split; decide; split <;> decide
      have hlk : lk k < 10 := by omega
      rcases rs_cases (pz tk am f (lk k) op i) with ⟨j1, e1⟩ | ⟨j1, c1, e1⟩
      · rw [pz_c0 k4 e1] at h; cases h
      · rcases rs_cases (pz tk am f (k + 10) op j1) with ⟨j2, e2⟩ | ⟨j2, c2, e2⟩
        · rw [pz_c1 k4 e1 e2] at h; cases h
        · rw [pz_c2 k4 e1 e2] at h
          cases h
          obtain ⟨a1, a2, a3, a4, a5, a6⟩ := ih _ _ _ _ _ (by omega) e1 hi
          obtain ⟨b1, b2, b3, b4, b5, b6⟩ := ih _ _ _ _ _ (by omega) e2 a1
          refine ⟨b1, by omega, fun _ => by have := a3 hlk; omega, by rw [List.length_append]; omega, fun _ m => tkn_app (a5 hlk m) (b6 (by omega) m), fun q => by omega⟩
    · by_cases e4 : k = 4
      · subst e4
        by_cases ht : tk i = 11 ∧ op < 5
        · rcases rs_cases (pz tk am f 4 (op + 1) (i + 1)) with ⟨j1, e1⟩ | ⟨j1, c1, e1⟩
          · rw [pz_n0 ht e1] at h; cases h
          · rw [pz_n1 ht e1] at h
            cases h
            obtain ⟨a1, a2, a3, a4, a5, a6⟩ := ih _ _ _ _ _ (by omega) e1 (hv i hi (by rw [ht.1]; decide))
            exact ⟨a1, by omega, fun _ => by omega, by rw [List.length_append, List.length_singleton]; have := a3 (by decide); omega, fun _ m => tkn_app (a5 (by decide) m) (tkn_un (Or.inl rfl)), fun q => by omega⟩
        · rcases rs_cases (pz tk am f 2 op i) with ⟨j1, e1⟩ | ⟨j1, c1, e1⟩
          · rw [pz_d0 ht e1] at h; cases h
          · obtain ⟨a1, a2, a3, a4, a5, a6⟩ := ih _ _ _ _ _ (by omega) e1 hi
            by_cases hc : tk j1 = 60 ∨ tk j1 = 61
            · rcases rs_cases (pz tk am f 2 op (j1 + 1)) with ⟨j2, e2⟩ | ⟨j2, c2, e2⟩
              · rw [pz_d2 ht e1 hc e2] at h; cases h
              · rw [pz_d3 ht e1 hc e2] at h
                cases h
                obtain ⟨b1, b2, b3, b4, b5, b6⟩ := ih _ _ _ _ _ (by omega) e2 (hv j1 a1 (by rcases hc with q | q <;> rw [q] <;> decide))
                exact ⟨b1, by omega, fun _ => by omega, by rw [List.length_append, List.length_append, List.length_singleton]; omega, fun _ m => tkn_app (a5 (by decide) m) (tkn_app (b5 (by decide) (m + 1)) (tkn_bop (dO_bop _))), fun q => by omega⟩
            · rw [pz_d1 ht e1 hc] at h
              cases h
              exact ⟨a1, a2, fun _ => a3 (by decide), a4, fun _ => a5 (by decide), fun q => by omega⟩
      · by_cases e5 : k = 5
        · subst e5
          by_cases h1 : tk i = 300
          · rw [pz_o1 h1] at h
            cases h
            obtain ⟨v, hv1, ev⟩ := ha i h1
            exact ⟨hv i hi (by rw [h1]; decide), by omega, fun _ => by omega, by rw [List.length_singleton]; omega, fun _ m => tkn_num hv1 ev, fun q => by omega⟩
          · by_cases h2 : 0 ≤ tk i ∧ tk i < 6
            · rw [pz_o2 h1 h2] at h
              cases h
              obtain ⟨q, hq, eq⟩ := pk_yes (n := 6) (by decide) (fun z => i_nle h2.1 z) (fun z => i_nle z h2.2)
              refine ⟨hv i hi ?_, by omega, fun _ => by omega, by rw [List.length_singleton]; omega, fun _ m => ?_, fun q => by omega⟩
              · intro z
                rw [z] at h2
                exact absurd h2.2 (by decide)
              · rw [eq]; exact tkn_nm hq
            · by_cases h3 : tk i = 45 ∧ op < 5
              · rcases rs_cases (pz tk am f 5 (op + 1) (i + 1)) with ⟨j1, e1⟩ | ⟨j1, c1, e1⟩
                · rw [pz_o3 h1 h2 h3 e1] at h; cases h
                · rw [pz_o4 h1 h2 h3 e1] at h
                  cases h
                  obtain ⟨a1, a2, a3, a4, a5, a6⟩ := ih _ _ _ _ _ (by omega) e1 (hv i hi (by rw [h3.1]; decide))
                  exact ⟨a1, by omega, fun _ => by omega, by rw [List.length_append, List.length_singleton]; have := a3 (by decide); omega, fun _ m => tkn_app (a5 (by decide) m) (tkn_un (Or.inr rfl)), fun q => by omega⟩
              · by_cases h4 : tk i = 40 ∧ op < 5
                · rcases rs_cases (pz tk am f 0 (op + 1) (i + 1)) with ⟨j1, e1⟩ | ⟨j1, c1, e1⟩
                  · rw [pz_o5 h1 h2 h3 h4 e1] at h; cases h
                  · by_cases h5 : tk j1 = 41
                    · rw [pz_o7 h1 h2 h3 h4 e1 h5] at h
                      cases h
                      obtain ⟨a1, a2, a3, a4, a5, a6⟩ := ih _ _ _ _ _ (by omega) e1 (hv i hi (by rw [h4.1]; decide))
                      exact ⟨hv j1 a1 (by rw [h5]; decide), by omega, fun _ => by omega, by omega, fun _ => a5 (by decide), fun q => by omega⟩
                    · rw [pz_o6 h1 h2 h3 h4 e1 h5] at h; cases h
                · rw [pz_o8 h1 h2 h3 h4] at h; cases h
        · by_cases k10 : 10 ≤ k
          · obtain ⟨l, rfl⟩ : ∃ l, k = l + 10 := ⟨k - 10, by omega⟩
            have hlk5 : lk l ≤ 5 := by unfold lk; split; decide; split; decide; split <;> decide
            have hlk : lk l < 10 := by omega
            by_cases ht : jn l (tk i) = true
            · have hne : tk i ≠ 301 := by
                intro q
                rw [q] at ht
                unfold jn at ht
                split at ht
                · exact absurd ht (by decide)
                · split at ht
                  · exact absurd ht (by decide)
                  · split at ht <;> exact absurd ht (by decide)
              rcases rs_cases (pz tk am f (lk l) op (i + 1)) with ⟨j1, e1⟩ | ⟨j1, c1, e1⟩
              · rw [pz_t1 ht e1] at h; cases h
              · rcases rs_cases (pz tk am f (l + 10) op j1) with ⟨j2, e2⟩ | ⟨j2, c2, e2⟩
                · rw [pz_t2 ht e1 e2] at h; cases h
                · rw [pz_t3 ht e1 e2] at h
                  cases h
                  obtain ⟨a1, a2, a3, a4, a5, a6⟩ := ih _ _ _ _ _ (by omega) e1 (hv i hi hne)
                  obtain ⟨b1, b2, b3, b4, b5, b6⟩ := ih _ _ _ _ _ (by omega) e2 a1
                  refine ⟨b1, by omega, fun _ => by omega, by rw [List.length_append, List.length_cons]; have := a3 hlk; omega, fun q => by omega, fun _ m => ?_⟩
                  exact tkn_app (a5 hlk (m + 1)) (tkn_app (c := [dO (tk i)]) (tkn_bop (dO_bop _)) (b6 (by omega) m))
            · rw [pz_t0 ht] at h
              cases h
              exact ⟨hi, Nat.le_refl _, fun q => by omega, by rw [List.length_nil]; omega, fun q => by omega, fun _ m => rfl⟩
          · omega
