/-! the first state is such, and the reference holds it -/
theorem VC_first : ∀ v, v ∈ ([5, -10, 3, -27, -25, 2, -11] : List Int32) → VC v := by
  intro v hv
  simp only [List.mem_cons, List.not_mem_nil, or_false] at hv
  rcases hv with rfl | rfl | rfl | rfl | rfl | rfl | rfl
  · exact Or.inl ⟨5, by decide, rfl⟩
  · exact Or.inr (Or.inl ⟨0, by decide, rfl⟩)
  · exact Or.inl ⟨3, by decide, rfl⟩
  · exact Or.inr (Or.inr (Or.inr (Or.inr (by unfold bop; decide))))
  · exact Or.inr (Or.inr (Or.inr (Or.inr (by unfold bop; decide))))
  · exact Or.inl ⟨2, by decide, rfl⟩
  · exact Or.inr (Or.inl ⟨1, by decide, rfl⟩)
theorem WfS_first : WfS S0 1 0 0 := by
  have hv : ∀ i, i < 7 → VC (S0 42 (160 * 0 + i)) := fun i hi => VC_first _ (by
    rcases (show i = 0 ∨ i = 1 ∨ i = 2 ∨ i = 3 ∨ i = 4 ∨ i = 5 ∨ i = 6 by omega) with rfl | rfl | rfl | rfl | rfl | rfl | rfl <;> decide)
  refine ⟨by decide, by decide, rfl, fun r hr => ?_, ⟨by decide, rfl, ⟨0, by decide, rfl⟩, ⟨0, by decide, rfl⟩, fun p hp => absurd hp (Nat.not_lt_zero p), fun i _ => ⟨0, by decide, rfl⟩⟩, Or.inl rfl, ⟨by decide, rfl, fun i hi => absurd hi (Nat.not_lt_zero i)⟩, fun s hs => ⟨Or.inl ?_, 0, by decide, rfl⟩⟩
  · have hr : r = 0 := by omega
    subst hr
    refine ⟨fun p => ([5, 6, 7] : List Nat).getD p 0, fun p hp => ?_, by decide, by decide, by decide, fun p hp => ?_⟩
    · rcases (show p = 0 ∨ p = 1 ∨ p = 2 by omega) with rfl | rfl | rfl <;> rfl
    · rcases (show p = 0 ∨ p = 1 ∨ p = 2 by omega) with rfl | rfl | rfl
      · exact ⟨hv 0 (by decide), 1, rfl, hv 1 (by decide), 2, rfl, hv 2 (by decide), 3, rfl, hv 3 (by decide), 2, rfl, hv 4 (by decide), 1, rfl, rfl⟩
      · exact ⟨hv 5 (by decide), 1, rfl, rfl⟩
      · exact ⟨hv 6 (by decide), 1, rfl, rfl⟩
  · show (if s < 4 then (-1 : Int32) else 0) = -1
    rw [if_pos hs]
set_option maxRecDepth 100000 in
theorem nm_first : ∀ i, i < 72 → A7 zA 44 i = mNm i := by decide +kernel
set_option maxRecDepth 100000 in
theorem ab_first : ∀ i, i < 6 → A7 zA 57 i = mAb i := by decide +kernel
set_option maxRecDepth 100000 in
theorem co_first : ∀ i, i < 7 → A7 zA 42 i = S0 42 i := by decide +kernel
theorem s2_cg {B B' : mA} {i j k : Nat} {v : Int32} (h : B k = B' k) : s2 B i j v k = s2 B' i j v k := by
  by_cases e : k = i
  · subst e
    rw [s2_eq, s2_eq, h]
  · rw [s2_ne e, s2_ne e, h]
theorem mix_hi {A : mA} {k : Nat} (h : 38 ≤ k) : mix A k = fun _ => 0 := by simp only [mix, if_neg (Nat.not_lt.mpr h)]
theorem A7_hi {A : mA} {k : Nat} (h : 38 ≤ k) : A7 A k = A7 zA k := by
  unfold A7 ftA
  iterate 100 refine s2_cg ?_
  rw [mix_hi h, mix_hi h]
theorem A7_no {A : mA} {k : Nat} (h1 : k ≠ 38) (h2 : k ≠ 42) (h3 : k ≠ 43) (h4 : k ≠ 44) (h5 : k ≠ 53) (h6 : k ≠ 57) (h7 : k ≠ 58) : A7 A k = mix A k := by
  simp only [A7, ftA, s2_ne h1, s2_ne h2, s2_ne h3, s2_ne h4, s2_ne h5, s2_ne h6, s2_ne h7]
theorem A7_0 {A : mA} {k : Nat} (h : 38 < k) (h2 : k ≠ 42) (h3 : k ≠ 43) (h4 : k ≠ 44) (h5 : k ≠ 53) (h6 : k ≠ 57) (h7 : k ≠ 58) : A7 A k = fun _ => 0 := (A7_no (by omega) h2 h3 h4 h5 h6 h7).trans (mix_hi (by omega))
set_option maxRecDepth 100000 in
theorem ob_first : A7 zA 38 2 = 0 ∧ A7 zA 38 4 = 0 ∧ A7 zA 38 11 = 1 := by decide +kernel
set_option maxRecDepth 100000 in
theorem en_first : ∀ i, i < 3 → A7 zA 43 i = S0 43 i := by decide +kernel
theorem so_first {A : mA} : A7 A 53 = S0 53 := by
  have e : A7 A 53 = upd (upd (upd (upd (mix A 53) 0 (-1)) 1 (-1)) 2 (-1)) 3 (-1) := by
    simp only [A7, ftA, s2_eq, s2_ne (show (53 : Nat) ≠ 57 by decide), s2_ne (show (53 : Nat) ≠ 44 by decide), s2_ne (show (53 : Nat) ≠ 38 by decide), s2_ne (show (53 : Nat) ≠ 43 by decide), s2_ne (show (53 : Nat) ≠ 42 by decide), s2_ne (show (53 : Nat) ≠ 58 by decide)]
  rw [e, mix_hi (by decide)]
  funext j
  show _ = if j < 4 then (-1 : Int32) else 0
  rcases (show j = 0 ∨ j = 1 ∨ j = 2 ∨ j = 3 ∨ 4 ≤ j by omega) with rfl | rfl | rfl | rfl | h
  · rfl
  · rfl
  · rfl
  · rfl
  · rw [if_neg (by omega), upd_no (by omega), upd_no (by omega), upd_no (by omega), upd_no (by omega)]
theorem RM_first {A : mA} : RM (A7 A) S0 1 := by
  have h38 : A7 A 38 = A7 zA 38 := A7_hi (by decide)
  refine ⟨A7_0 (by decide) (by decide) (by decide) (by decide) (by decide) (by decide) (by decide), A7_0 (by decide) (by decide) (by decide) (by decide) (by decide) (by decide) (by decide), ?_, ?_, ?_, A7_0 (by decide) (by decide) (by decide) (by decide) (by decide) (by decide) (by decide), fun r i hr hi => ?_, fun i hi => ?_, so_first, A7_0 (by decide) (by decide) (by decide) (by decide) (by decide) (by decide) (by decide), A7_0 (by decide) (by decide) (by decide) (by decide) (by decide) (by decide) (by decide), fun i hi => ?_, fun i hi => ?_⟩
  · rw [h38, ob_first.1]; rfl
  · rw [h38, ob_first.2.1]; rfl
  · rw [h38, ob_first.2.2]; rfl
  · have hr : r = 0 := by omega
    subst hr
    rw [A7_hi (by decide), show 160 * 0 + i = i by omega]
    exact co_first i hi
  · rw [A7_hi (by decide)]
    exact en_first i (by omega)
  · rw [A7_hi (by decide)]
    exact nm_first i hi
  · rw [A7_hi (by decide)]
    exact ab_first i hi
/-- the reference's constructor leaves the class's cells -/
theorem A7_low {A : mA} {k : Nat} (hk : k < 38) : A7 A k = A k := by
  rw [A7_no (by omega) (by omega) (by omega) (by omega) (by omega) (by omega) (by omega)]
  simp only [mix, if_pos hk]
