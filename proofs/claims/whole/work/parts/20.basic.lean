/-! plain numbers -/
theorem pk_cases (x : Int32) (n : Nat) : (∃ j : Nat, j < n ∧ x = nI j) ∨ ∀ j : Nat, j < n → x ≠ nI j := by
  by_cases h : ∃ j : Nat, j < n ∧ x = nI j
  · exact Or.inl h
  · exact Or.inr (fun j hj e => h ⟨j, hj, e⟩)
theorem pk_no {x : Int32} {n : Nat} (hn : n < 2 ^ 31) (h : x < 0 ∨ nI n ≤ x) : ∀ j : Nat, j < n → x ≠ nI j := by
  intro j hj e
  subst e
  rcases h with h | h
  · exact nI_pos (by omega) h
  · exact nI_ge hj hn h
theorem pk_yes {x : Int32} {n : Nat} (hn : n < 2 ^ 31) (h1 : ¬ x < 0) (h2 : ¬ nI n ≤ x) : ∃ j : Nat, j < n ∧ x = nI j := by
  rcases pk_ix x hn with h | h | h
  · exact absurd h h1
  · exact absurd h h2
  · exact h
/-- to lie between two bounds, or to be the bound -/
def clp (v lo hi : Int32) : Int32 := if v < lo then lo else if hi < v then hi else v
theorem i_lt (a b : Int32) : a < b ↔ a.toInt < b.toInt := Int32.lt_iff_toInt_lt
theorem i_le (a b : Int32) : a ≤ b ↔ a.toInt ≤ b.toInt := Int32.le_iff_toInt_le
theorem i_eq (a b : Int32) : a = b ↔ a.toInt = b.toInt := Int32.toInt_inj.symm
theorem i_rng (x : Int32) : -2147483648 ≤ x.toInt ∧ x.toInt < 2147483648 := ⟨Int32.le_toInt x, Int32.toInt_lt x⟩
theorem i_pred {n : Nat} (hn : n < 2 ^ 31) : (nI n - 1).toInt = (n : Int) - 1 := by
  cases n with
  | zero => decide
  | succ n => rw [nI_pred, nI_toInt (by omega)]; omega
theorem clp_ge {v lo hi : Int32} (h : lo ≤ hi) : lo ≤ clp v lo hi := by
  unfold clp
  simp only [i_lt, i_le] at *
  split
  · omega
  · split <;> omega
theorem clp_le {v lo hi : Int32} (h : lo ≤ hi) : clp v lo hi ≤ hi := by
  unfold clp
  simp only [i_lt, i_le] at *
  split
  · omega
  · split <;> omega
theorem clp_id {v lo hi : Int32} (h1 : lo ≤ v) (h2 : v ≤ hi) : clp v lo hi = v := by
  unfold clp
  simp only [i_lt, i_le] at *
  rw [if_neg (by omega), if_neg (by omega)]
theorem clp_nI {v : Int32} (m : Nat) (hm : m < 2 ^ 31) : ∃ j : Nat, j ≤ m ∧ clp v 0 (nI m) = nI j := by
  have h0 : (0 : Int32) ≤ nI m := nI_pos' hm
  have h1 := clp_ge (v := v) h0
  have h2 := clp_le (v := v) h0
  obtain ⟨j, hj, e⟩ := nI_of2 (M := nI m) (nI_toInt hm) (x := clp v 0 (nI m)) (by rw [i_lt, i_le] at *; omega) h2
  exact ⟨j, hj, e⟩
section BASIC
variable {E : mE} {d : Nat} {A : mA} {L : mJ} {Ph : mP}
theorem sp_X6_within {v u : Int32} (lim : Nat) (hu : u = nI lim) (hl : lim < 2 ^ 31) (h1 : ∀ j : Nat, j < lim → v = nI j → Ph (some (.int 1)) A L) (h0 : (∀ j : Nat, j < lim → v ≠ nI j) → Ph (some (.int 0)) A L) : qC E mm_X6_within d [.int v, .int u] A L Ph := by
  subst hu
  refine qC.enter (by decide) (Nat.le_of_ble_eq_true rfl) ?_
  refine r_iload_n dX6_within_0 rfl ?_
  refine r_if_lt (tgt := 13) dX6_within_1 (by decide) (fun b1 => ?_) (fun b1 => ?_)
  · refine r_iconst (v := 0) dX6_within_13 rfl ?_
    refine r_ireturn dX6_within_14 rfl (by decide) ?_
    first | exact h0 (pk_no hl (Or.inl b1)) | exact h0 (pk_no hl (Or.inr b6)) | (obtain ⟨j, hj, e⟩ := pk_yes hl b1 b6; exact h1 j hj e)
  · refine r_iload_n dX6_within_4 rfl ?_
    refine r_iload_n dX6_within_5 rfl ?_
    refine r_icmp_ge (tgt := 13) dX6_within_6 (by decide) (fun b6 => ?_) (fun b6 => ?_)
    · refine r_iconst (v := 0) dX6_within_13 rfl ?_
      refine r_ireturn dX6_within_14 rfl (by decide) ?_
      first | exact h0 (pk_no hl (Or.inl b1)) | exact h0 (pk_no hl (Or.inr b6)) | (obtain ⟨j, hj, e⟩ := pk_yes hl b1 b6; exact h1 j hj e)
    · refine r_iconst (v := 1) dX6_within_9 rfl ?_
      refine r_goto (tgt := 14) dX6_within_10 (by decide) ?_
      refine r_ireturn dX6_within_14 rfl (by decide) ?_
      first | exact h0 (pk_no hl (Or.inl b1)) | exact h0 (pk_no hl (Or.inr b6)) | (obtain ⟨j, hj, e⟩ := pk_yes hl b1 b6; exact h1 j hj e)
theorem sp_X7_isIn {v lo hi : Int32} (h1 : lo ≤ v → v ≤ hi → Ph (some (.int 1)) A L) (h0 : (v < lo ∨ hi < v) → Ph (some (.int 0)) A L) : qC E mm_X7_isIn d [.int v, .int lo, .int hi] A L Ph := by
  refine qC.enter (by decide) (Nat.le_of_ble_eq_true rfl) ?_
  refine r_iload_n dX7_isIn_0 rfl ?_
  refine r_iload_n dX7_isIn_1 rfl ?_
  refine r_icmp_lt (tgt := 14) dX7_isIn_2 (by decide) (fun b2 => ?_) (fun b2 => ?_)
  · refine r_iconst (v := 0) dX7_isIn_14 rfl ?_
    refine r_ireturn dX7_isIn_15 rfl (by decide) ?_
    simp only [i_lt, i_le] at *
    first | exact h0 (by omega) | exact h1 (by omega) (by omega)
  · refine r_iload_n dX7_isIn_5 rfl ?_
    refine r_iload_n dX7_isIn_6 rfl ?_
    refine r_icmp_gt (tgt := 14) dX7_isIn_7 (by decide) (fun b7 => ?_) (fun b7 => ?_)
    · refine r_iconst (v := 0) dX7_isIn_14 rfl ?_
      refine r_ireturn dX7_isIn_15 rfl (by decide) ?_
      simp only [i_lt, i_le] at *
      first | exact h0 (by omega) | exact h1 (by omega) (by omega)
    · refine r_iconst (v := 1) dX7_isIn_10 rfl ?_
      refine r_goto (tgt := 15) dX7_isIn_11 (by decide) ?_
      refine r_ireturn dX7_isIn_15 rfl (by decide) ?_
      simp only [i_lt, i_le] at *
      first | exact h0 (by omega) | exact h1 (by omega) (by omega)
/-- isIn from 0 to one less than a number -/
theorem sp_isIn0 {v lo hi : Int32} (lim : Nat) (hlo : lo = 0) (hu : hi = nI lim - 1) (hl : lim < 2 ^ 31) (h1 : ∀ j : Nat, j < lim → v = nI j → Ph (some (.int 1)) A L) (h0 : (∀ j : Nat, j < lim → v ≠ nI j) → Ph (some (.int 0)) A L) : qC E mm_X7_isIn d [.int v, .int lo, .int hi] A L Ph := by
  subst hu; subst hlo
  have e := i_pred hl
  have e2 := nI_toInt hl
  refine sp_X7_isIn (fun a b => ?_) (fun a => ?_)
  · obtain ⟨j, hj, e⟩ := pk_yes (x := v) hl (by simp only [i_lt, i_le] at *; omega) (by simp only [i_lt, i_le] at *; omega)
    exact h1 j hj e
  · refine h0 (pk_no hl ?_)
    simp only [i_lt, i_le] at *
    omega
theorem sp_X6_bounded {v lo hi : Int32} (hb : lo ≤ hi) (h : Ph (some (.int (clp v lo hi))) A L) : qC E mm_X6_bounded (d + 1) [.int v, .int lo, .int hi] A L Ph := by
  have e : (if lo < (if v < hi then v else hi) then (if v < hi then v else hi) else lo) = clp v lo hi := by
    unfold clp
    simp only [i_lt, i_le, i_eq] at *
    by_cases h1 : v.toInt < hi.toInt
    · simp only [h1, if_true]
      by_cases h2 : lo.toInt < v.toInt
      · rw [if_pos h2, if_neg (by omega), if_neg (by omega)]
      · rw [if_neg h2]
        by_cases h3 : v.toInt < lo.toInt
        · rw [if_pos h3]
        · rw [if_neg h3, if_neg (by omega)]; omega
    · simp only [h1, if_false]
      by_cases h2 : lo.toInt < hi.toInt
      · rw [if_pos h2, if_neg (by omega)]
        by_cases h3 : hi.toInt < v.toInt
        · rw [if_pos h3]
        · rw [if_neg h3]; omega
      · rw [if_neg h2, if_neg (by omega)]
        by_cases h3 : hi.toInt < v.toInt
        · rw [if_pos h3]; omega
        · rw [if_neg h3]; omega
  refine qC.enter (by decide) (Nat.le_of_ble_eq_true rfl) ?_
  refine r_iload_n dX6_bounded_0 rfl ?_
  refine r_iload_n dX6_bounded_1 rfl ?_
  refine r_iload_n dX6_bounded_2 rfl ?_
  refine r_mmin dX6_bounded_3 lmn_X6_331 (Nat.le_of_ble_eq_true rfl) ?_
  refine r_mmax dX6_bounded_6 lmx_X6_208 (Nat.le_of_ble_eq_true rfl) ?_
  refine r_ireturn dX6_bounded_9 rfl rfl ?_
  rw [e]
  exact h
theorem sp_X7_bound {v lo hi : Int32} (h : Ph (some (.int (clp v lo hi))) A L) : qC E mm_X7_bound d [.int v, .int lo, .int hi] A L Ph := by
  refine qC.enter (by decide) (Nat.le_of_ble_eq_true rfl) ?_
  refine r_iload_n dX7_bound_0 rfl ?_
  refine r_iload_n dX7_bound_1 rfl ?_
  refine r_icmp_ge (tgt := 9) dX7_bound_2 (by decide) (fun b2 => ?_) (fun b2 => ?_)
  · refine r_iload_n dX7_bound_9 rfl ?_
    refine r_iload_n dX7_bound_10 rfl ?_
    refine r_icmp_le (tgt := 18) dX7_bound_11 (by decide) (fun b11 => ?_) (fun b11 => ?_)
    · refine r_iload_n dX7_bound_18 rfl ?_
      refine r_ireturn dX7_bound_19 rfl rfl ?_
      unfold clp at h
      first | rwa [if_pos (by simp only [i_lt, i_le] at *; omega)] at h | rwa [if_neg (by simp only [i_lt, i_le] at *; omega), if_pos (by simp only [i_lt, i_le] at *; omega)] at h | rwa [if_neg (by simp only [i_lt, i_le] at *; omega), if_neg (by simp only [i_lt, i_le] at *; omega)] at h
    · refine r_iload_n dX7_bound_14 rfl ?_
      refine r_goto (tgt := 19) dX7_bound_15 (by decide) ?_
      refine r_ireturn dX7_bound_19 rfl rfl ?_
      unfold clp at h
      first | rwa [if_pos (by simp only [i_lt, i_le] at *; omega)] at h | rwa [if_neg (by simp only [i_lt, i_le] at *; omega), if_pos (by simp only [i_lt, i_le] at *; omega)] at h | rwa [if_neg (by simp only [i_lt, i_le] at *; omega), if_neg (by simp only [i_lt, i_le] at *; omega)] at h
  · refine r_iload_n dX7_bound_5 rfl ?_
    refine r_goto (tgt := 19) dX7_bound_6 (by decide) ?_
    refine r_ireturn dX7_bound_19 rfl rfl ?_
    unfold clp at h
    first | rwa [if_pos (by simp only [i_lt, i_le] at *; omega)] at h | rwa [if_neg (by simp only [i_lt, i_le] at *; omega), if_pos (by simp only [i_lt, i_le] at *; omega)] at h | rwa [if_neg (by simp only [i_lt, i_le] at *; omega), if_neg (by simp only [i_lt, i_le] at *; omega)] at h
end BASIC
