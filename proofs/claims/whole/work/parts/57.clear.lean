/-! view, clear -/
def cutN (f : Nat → Int32) (j : Nat) : Nat → Int32 := fun i => if i < j then f i else 0
theorem cutN_in {f : Nat → Int32} {j i : Nat} (h : i < j) : cutN f j i = f i := if_pos h
theorem cutN_out {f : Nat → Int32} {j i : Nat} (h : j ≤ i) : cutN f j i = 0 := if_neg (by omega)
def laF (f : Nat → Int32) : Nat → Int32
  | 0 => 0
  | m + 1 => if f m ≠ 0 then f m else laF f m
def miF (f : Nat → Int32) : Nat → Int32
  | 0 => -1
  | m + 1 => if f m ≠ 0 then nI m else miF f m
theorem laF_cong {f g : Nat → Int32} : ∀ {n : Nat}, (∀ i, i < n → f i = g i) → laF f n = laF g n
  | 0, _ => rfl
  | n + 1, h => by rw [laF, laF, laF_cong (fun i hi => h i (by omega)), h n (by omega)]
theorem miF_cong {f g : Nat → Int32} : ∀ {n : Nat}, (∀ i, i < n → f i = g i) → miF f n = miF g n
  | 0, _ => rfl
  | n + 1, h => by rw [miF, miF, miF_cong (fun i hi => h i (by omega)), h n (by omega)]
theorem mi_la (f : Nat → Int32) : ∀ j, (miF f j = -1 ∧ laF f j = 0) ∨ ∃ m, m < j ∧ miF f j = nI m ∧ laF f j = f m := by
  intro j
  induction j with
  | zero => exact Or.inl ⟨rfl, rfl⟩
  | succ j ih =>
    rw [miF, laF]
    by_cases q : f j ≠ 0
    · rw [if_pos q, if_pos q]; exact Or.inr ⟨j, by omega, rfl, rfl⟩
    · rw [if_neg q, if_neg q]
      rcases ih with z | ⟨m, hm, z⟩
      · exact Or.inl z
      · exact Or.inr ⟨m, by omega, z⟩
theorem cut_all {f : Nat → Int32} {j : Nat} : ∀ k, laF (cutN f j) (j + k) = laF f j ∧ bmN (cutN f j) (j + k) = bmN f j ∧ cnz (cutN f j) (j + k) = cnz f j := by
  intro k
  induction k with
  | zero => exact ⟨laF_cong (fun i hi => cutN_in hi), bmN_cong (fun i hi => cutN_in hi), cnz_cong (fun i hi => cutN_in hi)⟩
  | succ k ih =>
    have e : cutN f j (j + k) = 0 := cutN_out (by omega)
    rw [show j + (k + 1) = j + k + 1 from rfl, laF, bmN, cnz, e]
    simp only [ne_eq, not_true_eq_false, if_false, Nat.add_zero]
    exact ih
theorem cut_40 {f : Nat → Int32} {j : Nat} (hj : j ≤ 40) : laF (cutN f j) 40 = laF f j ∧ bmN (cutN f j) 40 = bmN f j ∧ cnz (cutN f j) 40 = cnz f j := by
  have := cut_all (f := f) (j := j) (40 - j)
  rw [show j + (40 - j) = 40 by omega] at this
  exact this
theorem bmN_up (f : Nat → Int32) (j : Nat) : ∀ k, ∃ q, bmN f (j + k) = bmN f j + 2 ^ j * q := by
  intro k
  induction k with
  | zero => exact ⟨0, rfl⟩
  | succ k ih =>
    obtain ⟨q, e⟩ := ih
    rw [show j + (k + 1) = j + k + 1 from rfl, bmN, e]
    by_cases z : f (j + k) ≠ 0
    · rw [if_pos z, Nat.pow_add]
      exact ⟨q + 2 ^ k, by rw [Nat.mul_add]; omega⟩
    · rw [if_neg z]
      exact ⟨q, rfl⟩
theorem bmN_mod {f : Nat → Int32} {j : Nat} (hj : j ≤ 40) : bmN f 40 % 2 ^ j = bmN f j := by
  obtain ⟨q, e⟩ := bmN_up f j (40 - j)
  rw [show j + (40 - j) = 40 by omega] at e
  rw [e, Nat.add_mul_mod_self_left, Nat.mod_eq_of_lt (bmN_lt f j)]
theorem and_cut {f : Nat → Int32} {j : Nat} (hj : j ≤ 40) : lN (2 ^ j - 1) &&& lN (bmN f 40) = lN (bmN f j) := by
  rw [fb_andL, Nat.and_comm, Nat.and_two_pow_sub_one_eq_mod, bmN_mod hj]
theorem not_cut : ∀ m, m < 41 → lN (2 ^ 40 - 1) &&& (lN (2 ^ m - 1) ^^^ (-1)) = lN (2 ^ 40 - 1) - lN (2 ^ m - 1) := by decide +kernel
theorem shl1 {j : Nat} (hj : j ≤ 40) : lN 1 <<< ((nI j).toInt64 &&& 63) = lN (2 ^ j) := by rw [wb_shl 1 (by omega), Nat.one_mul]
theorem sub1 {j : Nat} : lN (2 ^ j) - lN 1 = lN (2 ^ j - 1) := lN_sub (Nat.one_le_two_pow)
section VW2
variable {E : mE} {d : Nat} {A S : mA} {L : mJ} {Ph : mP} {T n z p j : Nat}
set_option maxRecDepth 100000 in
set_option maxHeartbeats 1000000 in
theorem sp_milesBelow (hj : j ≤ 40) (h : Ph (some (.long (lN (2 ^ j - 1)))) A L) : qC E mm_X6_milesBelow (d + 2) [.int (nI j)] A L Ph := by
  refine qC.enter (by decide) (Nat.le_of_ble_eq_true rfl) ?_
  refine r_lconst (v := 1) dX6_milesBelow_0 rfl ?_
  refine r_iload_n dX6_milesBelow_1 rfl ?_
  refine r_iconst (v := 0) dX6_milesBelow_2 rfl ?_
  refine r_bipush (v := 40) dX6_milesBelow_3 rfl ?_
  refine r_callS3 dX6_milesBelow_5 lk_X6_334 (Nat.le_of_ble_eq_true rfl) (sp_X6_bounded (by decide) ?_)
  refine r_rw (y := nI j) (clp_id (nI_le (a := 0) (Nat.zero_le j) (by omega)) (nI_le (b := 40) hj (by decide))) ?_
  refine r_lshl dX6_milesBelow_8 ?_
  refine r_rwl (y := lN (2 ^ j)) (shl1 hj) ?_
  refine r_lconst (v := 1) dX6_milesBelow_9 rfl ?_
  refine r_lsub dX6_milesBelow_10 ?_
  refine r_rwl (y := lN (2 ^ j - 1)) sub1 ?_
  refine r_lreturn dX6_milesBelow_11 rfl ?_
  exact h
set_option maxRecDepth 100000 in
set_option maxHeartbeats 1000000 in
theorem sp_bits (hj : j ≤ 40) (h : Ph (some (.long (lN (2 ^ j - 1)))) A L) : qC E mm_X7_bits d [.int (nI j)] A L Ph := by
  refine qC.enter (by decide) (Nat.le_of_ble_eq_true rfl) ?_
  refine r_lconst (v := 1) dX7_bits_0 rfl ?_
  refine r_iload_n dX7_bits_1 rfl ?_
  refine r_lshl dX7_bits_2 ?_
  refine r_rwl (y := lN (2 ^ j)) (shl1 hj) ?_
  refine r_lconst (v := 1) dX7_bits_3 rfl ?_
  refine r_lsub dX7_bits_4 ?_
  refine r_rwl (y := lN (2 ^ j - 1)) sub1 ?_
  refine r_lreturn dX7_bits_5 rfl ?_
  exact h
set_option maxRecDepth 100000 in
set_option maxHeartbeats 1000000 in
theorem fm_loop (hE : hC E) {v : Int32} : ∀ j, j ≤ 40 → Ph (some (.int (miF (A 12) j))) A L → qG E mm_X2_furthestMileWithThing (d + 1) 9 [(2, .int (nI j - 1)), (0, .ref 1), (1, .int v)] [] A L Ph := by
  intro j
  induction j with
  | zero =>
    intro _ h
    rw [show nI 0 - 1 = (-1 : Int32) from rfl]
    refine r_iload_n dX2_furthestMileWithThing_9 rfl ?_
    refine r_if_lt (tgt := 30) dX2_furthestMileWithThing_10 (by decide) (fun _ => ?_) (fun hqz => absurd (by decide) hqz)
    refine r_iconst (v := (-1)) dX2_furthestMileWithThing_30 rfl ?_
    refine r_ireturn dX2_furthestMileWithThing_31 rfl rfl ?_
    exact h
  | succ j ih =>
    intro hj h
    rw [show nI (j + 1) - 1 = nI j by rw [show nI (j + 1) - 1 = nI (j + 1) - nI 1 from rfl, pk_sub (by omega)]; rfl]
    rw [miF] at h
    refine r_iload_n dX2_furthestMileWithThing_9 rfl ?_
    refine r_if_lt (tgt := 30) dX2_furthestMileWithThing_10 (by decide) (fun hqz => absurd hqz (i_nle (nI_le (a := 0) (Nat.zero_le j) (by omega)))) (fun _ => ?_)
    refine r_aload_n dX2_furthestMileWithThing_13 rfl ?_
    refine r_getR dX2_furthestMileWithThing_14 fl_X2_9 (ly_1 hE) rfl ?_
    refine r_iload_n dX2_furthestMileWithThing_17 rfl ?_
    refine r_ialdN dX2_furthestMileWithThing_18 (ly_12 hE) (by omega) (by decide) ?_
    refine r_if_eq (tgt := 24) dX2_furthestMileWithThing_19 (by decide) (fun b19 => ?_) (fun b19 => ?_)
    · refine r_iinc (v := (nI j - 1)) (loc' := [(2, .int (nI j - 1)), (0, .ref 1), (1, .int v)]) dX2_furthestMileWithThing_24 rfl (dec1 j) (by decide) rfl ?_
      refine r_goto (tgt := 9) dX2_furthestMileWithThing_27 (by decide) ?_
      refine qG.pick [0, 1, 2] rfl ?_
      rw [if_neg (not_not_intro b19)] at h
      exact ih (by omega) h
    · refine r_iload_n dX2_furthestMileWithThing_22 rfl ?_
      refine r_ireturn dX2_furthestMileWithThing_23 rfl rfl ?_
      rw [if_pos b19] at h
      exact h
set_option maxRecDepth 100000 in
set_option maxHeartbeats 1000000 in
theorem sp_fmile (hE : hC E) (hj : j ≤ 40) (h : Ph (some (.int (miF (A 12) j))) A L) : qC E mm_X2_furthestMileWithThing (d + 1) [.ref 1, .int (nI j)] A L Ph := by
  refine qC.enter (by decide) (Nat.le_of_ble_eq_true rfl) ?_
  refine r_iload_n dX2_furthestMileWithThing_0 rfl ?_
  refine r_bipush (v := 40) dX2_furthestMileWithThing_1 rfl ?_
  refine r_mmin dX2_furthestMileWithThing_3 lmn_X2_51 (Nat.le_of_ble_eq_true rfl) ?_
  refine r_rw (y := nI j) (if_neg (i_nle (nI_le (b := 40) hj (by decide)))) ?_
  refine r_iconst (v := 1) dX2_furthestMileWithThing_6 rfl ?_
  refine r_isub dX2_furthestMileWithThing_7 ?_
  refine r_istore_n (loc' := [(2, .int (nI j - 1)), (0, .ref 1), (1, .int (nI j))]) dX2_furthestMileWithThing_8 (by decide) rfl ?_
  refine qG.pick [0, 1, 2] rfl ?_
  exact fm_loop hE j hj h
set_option maxRecDepth 100000 in
set_option maxHeartbeats 1000000 in
theorem sp_fthing (hE : hC E) (hj : j ≤ 40) (h : Ph (some (.int (laF (A 12) j))) A L) : qC E mm_X2_furthestThing (d + 2) [.ref 1, .int (nI j)] A L Ph := by
  rcases mi_la (A 12) j with ⟨e1, e2⟩ | ⟨m, hm, e1, e2⟩
  · rw [e2] at h
    refine qC.enter (by decide) (Nat.le_of_ble_eq_true rfl) ?_
    refine r_aload_n dX2_furthestThing_0 rfl ?_
    refine r_iload_n dX2_furthestThing_1 rfl ?_
    refine r_callV1 dX2_furthestThing_2 lk_X2_57 (ly_1 hE) rfl (Nat.le_of_ble_eq_true rfl) (sp_fmile hE hj ?_)
    refine r_rw (y := -1) e1 ?_
    refine r_istore_n (loc' := [(2, .int (-1)), (0, .ref 1), (1, .int (nI j))]) dX2_furthestThing_5 (by decide) rfl ?_
    refine r_iload_n dX2_furthestThing_6 rfl ?_
    refine r_bipush (v := 40) dX2_furthestThing_7 rfl ?_
    refine r_callN2 dX2_furthestThing_9 lk_X2_43 (Nat.le_of_ble_eq_true rfl) (win_f 40 rfl (by decide) (fun j hj e => nI_nm1 (by omega) e.symm) ?_)
    refine r_if_eq (tgt := 24) dX2_furthestThing_12 (by decide) (fun _ => ?_) (fun hqz => absurd (by decide) hqz)
    refine r_iconst (v := 0) dX2_furthestThing_24 rfl ?_
    refine r_ireturn dX2_furthestThing_25 rfl rfl ?_
    exact h
  · rw [e2] at h
    refine qC.enter (by decide) (Nat.le_of_ble_eq_true rfl) ?_
    refine r_aload_n dX2_furthestThing_0 rfl ?_
    refine r_iload_n dX2_furthestThing_1 rfl ?_
    refine r_callV1 dX2_furthestThing_2 lk_X2_57 (ly_1 hE) rfl (Nat.le_of_ble_eq_true rfl) (sp_fmile hE hj ?_)
    refine r_rw (y := nI m) e1 ?_
    refine r_istore_n (loc' := [(2, .int (nI m)), (0, .ref 1), (1, .int (nI j))]) dX2_furthestThing_5 (by decide) rfl ?_
    refine r_iload_n dX2_furthestThing_6 rfl ?_
    refine r_bipush (v := 40) dX2_furthestThing_7 rfl ?_
    refine r_callN2 dX2_furthestThing_9 lk_X2_43 (Nat.le_of_ble_eq_true rfl) (win_t (lim := 40) rfl (by decide) (by omega) ?_)
    refine r_if_eq (tgt := 24) dX2_furthestThing_12 (by decide) (fun hqz => absurd hqz (by decide)) (fun _ => ?_)
    refine r_aload_n dX2_furthestThing_15 rfl ?_
    refine r_getR dX2_furthestThing_16 fl_X2_9 (ly_1 hE) rfl ?_
    refine r_iload_n dX2_furthestThing_19 rfl ?_
    refine r_ialdN dX2_furthestThing_20 (ly_12 hE) (by omega) (by decide) ?_
    refine r_goto (tgt := 25) dX2_furthestThing_21 (by decide) ?_
    refine r_ireturn dX2_furthestThing_25 rfl rfl ?_
    exact h
set_option maxRecDepth 100000 in
set_option maxHeartbeats 1000000 in
theorem vw_loop (hE : hM E) {f : Nat → Int32} (hA : A 39 = f) {wv : Int32} (hj : j ≤ 40) (h : qG E mm_X7_view d 89 [(5, .int (miF f 40)), (4, .int (laF (cutN f j) 40)), (3, .int (nI (cnz (cutN f j) 40))), (2, .int (nI j)), (0, .ref 38), (1, .int wv)] [] A L Ph) : ∀ (k m : Nat), m + k = 40 → qG E mm_X7_view d 28 [(6, .int (nI m)), (5, .int (miF f m)), (4, .int (laF (cutN f j) m)), (3, .int (nI (cnz (cutN f j) m))), (2, .int (nI j)), (0, .ref 38), (1, .int wv)] [] A L Ph := by
  intro k
  induction k with
  | zero =>
    intro m hm
    have hm : m = 40 := by omega
    subst hm
    generalize miF f 40 = mi at *
    generalize laF (cutN f j) 40 = la at *
    generalize cnz (cutN f j) 40 = c at *
    refine r_iload dX7_view_28 rfl ?_
    refine r_bipush (v := 40) dX7_view_30 rfl ?_
    refine r_icmp_ge (tgt := 89) dX7_view_32 (by decide) (fun _ => ?_) (fun hqz => absurd (nI_le (Nat.le_refl 40) (by decide)) hqz)
    refine qG.pick [1, 2, 3, 4, 5, 6] rfl ?_
    exact h
  | succ k ih =>
    intro m hk
    have hm : m < 40 := by omega
    have hs := ih (m + 1) (by omega)
    rw [miF, laF, cnz] at hs
    clear h ih
    by_cases e0 : f m = 0
    · have e1 : (cutN f j) m = 0 := by unfold cutN; split; exact e0; rfl
      rw [if_neg (not_not_intro e0), if_neg (not_not_intro e1), if_neg (not_not_intro e1), Nat.add_zero] at hs
      generalize miF f m = mi at *
      generalize laF (cutN f j) m = la at *
      generalize cnz (cutN f j) m = c at *
      refine r_iload dX7_view_28 rfl ?_
      refine r_bipush (v := 40) dX7_view_30 rfl ?_
      refine r_icmp_ge (tgt := 89) dX7_view_32 (by decide) (fun hqz => absurd hqz (nI_ge hm (by decide))) (fun _ => ?_)
      refine r_aload_n dX7_view_35 rfl ?_
      refine r_getR dX7_view_36 fl_X7_7 (ly_38 hE) rfl ?_
      refine r_iload dX7_view_39 rfl ?_
      refine r_ialdN dX7_view_41 (ly_39 hE) (by omega) (by decide) ?_
      refine r_rw (y := 0) (by rw [hA, e0]) ?_
      refine r_if_eq (tgt := 83) dX7_view_42 (by decide) (fun _ => ?_) (fun hqz => absurd (by decide) hqz)
      refine r_iinc (v := (nI (m + 1))) (loc' := [(6, .int (nI (m + 1))), (5, .int mi), (4, .int la), (3, .int (nI c)), (2, .int (nI j)), (0, .ref 38), (1, .int wv)]) dX7_view_83 rfl ((nI_succ _).symm) (by decide) rfl ?_
      refine r_goto (tgt := 28) dX7_view_86 (by decide) ?_
      refine qG.pick [0, 1, 2, 3, 4, 5, 6] rfl ?_
      exact hs
    · rw [if_pos e0] at hs
      rcases Nat.lt_or_ge m j with q | q
      · rw [cutN_in q, if_pos e0, if_pos e0] at hs
        generalize miF f m = mi at *
        generalize laF (cutN f j) m = la at *
        generalize cnz (cutN f j) m = c at *
        refine r_iload dX7_view_28 rfl ?_
        refine r_bipush (v := 40) dX7_view_30 rfl ?_
        refine r_icmp_ge (tgt := 89) dX7_view_32 (by decide) (fun hqz => absurd hqz (nI_ge hm (by decide))) (fun _ => ?_)
        refine r_aload_n dX7_view_35 rfl ?_
        refine r_getR dX7_view_36 fl_X7_7 (ly_38 hE) rfl ?_
        refine r_iload dX7_view_39 rfl ?_
        refine r_ialdN dX7_view_41 (ly_39 hE) (by omega) (by decide) ?_
        refine r_rw (y := f m) (by rw [hA]) ?_
        refine r_if_eq (tgt := 83) dX7_view_42 (by decide) (fun hqz => absurd hqz e0) (fun _ => ?_)
        refine r_iload dX7_view_45 rfl ?_
        refine r_istore (loc' := [(5, .int (nI m)), (6, .int (nI m)), (4, .int la), (3, .int (nI c)), (2, .int (nI j)), (0, .ref 38), (1, .int wv)]) dX7_view_47 (by decide) rfl ?_
        refine r_iload_n dX7_view_49 rfl ?_
        refine r_iload dX7_view_50 rfl ?_
        refine r_iload_n dX7_view_52 rfl ?_
        refine r_icmp_ge (tgt := 60) dX7_view_53 (by decide) (fun hqz => absurd hqz (nI_ge q (by omega))) (fun _ => ?_)
        refine r_iconst (v := 1) dX7_view_56 rfl ?_
        refine r_goto (tgt := 61) dX7_view_57 (by decide) ?_
        refine r_iadd dX7_view_61 ?_
        refine r_rw (y := nI (c + 1)) (nI_1 c) ?_
        refine r_istore_n (loc' := [(3, .int (nI (c + 1))), (5, .int (nI m)), (6, .int (nI m)), (4, .int la), (2, .int (nI j)), (0, .ref 38), (1, .int wv)]) dX7_view_62 (by decide) rfl ?_
        refine r_iload dX7_view_63 rfl ?_
        refine r_iload_n dX7_view_65 rfl ?_
        refine r_icmp_ge (tgt := 79) dX7_view_66 (by decide) (fun hqz => absurd hqz (nI_ge q (by omega))) (fun _ => ?_)
        refine r_aload_n dX7_view_69 rfl ?_
        refine r_getR dX7_view_70 fl_X7_7 (ly_38 hE) rfl ?_
        refine r_iload dX7_view_73 rfl ?_
        refine r_ialdN dX7_view_75 (ly_39 hE) (by omega) (by decide) ?_
        refine r_rw (y := f m) (by rw [hA]) ?_
        refine r_goto (tgt := 81) dX7_view_76 (by decide) ?_
        refine r_topi (fun v81 e81 => ?_)
        refine r_istore (loc' := [(4, .int v81), (3, .int (nI (c + 1))), (5, .int (nI m)), (6, .int (nI m)), (2, .int (nI j)), (0, .ref 38), (1, .int wv)]) dX7_view_81 (by decide) rfl ?_
        refine r_iinc (v := (nI (m + 1))) (loc' := [(6, .int (nI (m + 1))), (4, .int v81), (3, .int (nI (c + 1))), (5, .int (nI m)), (2, .int (nI j)), (0, .ref 38), (1, .int wv)]) dX7_view_83 rfl ((nI_succ _).symm) (by decide) rfl ?_
        refine r_goto (tgt := 28) dX7_view_86 (by decide) ?_
        refine qG.pick [0, 3, 1, 2, 4, 5, 6] rfl ?_
        subst e81
        exact hs
      · rw [cutN_out q, if_neg (not_not_intro rfl), if_neg (not_not_intro rfl), Nat.add_zero] at hs
        generalize miF f m = mi at *
        generalize laF (cutN f j) m = la at *
        generalize cnz (cutN f j) m = c at *
        refine r_iload dX7_view_28 rfl ?_
        refine r_bipush (v := 40) dX7_view_30 rfl ?_
        refine r_icmp_ge (tgt := 89) dX7_view_32 (by decide) (fun hqz => absurd hqz (nI_ge hm (by decide))) (fun _ => ?_)
        refine r_aload_n dX7_view_35 rfl ?_
        refine r_getR dX7_view_36 fl_X7_7 (ly_38 hE) rfl ?_
        refine r_iload dX7_view_39 rfl ?_
        refine r_ialdN dX7_view_41 (ly_39 hE) (by omega) (by decide) ?_
        refine r_rw (y := f m) (by rw [hA]) ?_
        refine r_if_eq (tgt := 83) dX7_view_42 (by decide) (fun hqz => absurd hqz e0) (fun _ => ?_)
        refine r_iload dX7_view_45 rfl ?_
        refine r_istore (loc' := [(5, .int (nI m)), (6, .int (nI m)), (4, .int la), (3, .int (nI c)), (2, .int (nI j)), (0, .ref 38), (1, .int wv)]) dX7_view_47 (by decide) rfl ?_
        refine r_iload_n dX7_view_49 rfl ?_
        refine r_iload dX7_view_50 rfl ?_
        refine r_iload_n dX7_view_52 rfl ?_
        refine r_icmp_ge (tgt := 60) dX7_view_53 (by decide) (fun _ => ?_) (fun hqz => absurd (nI_le q (by omega)) hqz)
        refine r_iconst (v := 0) dX7_view_60 rfl ?_
        refine r_iadd dX7_view_61 ?_
        refine r_rw (y := nI c) (Int32.add_zero _) ?_
        refine r_istore_n (loc' := [(3, .int (nI c)), (5, .int (nI m)), (6, .int (nI m)), (4, .int la), (2, .int (nI j)), (0, .ref 38), (1, .int wv)]) dX7_view_62 (by decide) rfl ?_
        refine r_iload dX7_view_63 rfl ?_
        refine r_iload_n dX7_view_65 rfl ?_
        refine r_icmp_ge (tgt := 79) dX7_view_66 (by decide) (fun _ => ?_) (fun hqz => absurd (nI_le q (by omega)) hqz)
        refine r_iload dX7_view_79 rfl ?_
        refine r_istore (loc' := [(4, .int la), (3, .int (nI c)), (5, .int (nI m)), (6, .int (nI m)), (2, .int (nI j)), (0, .ref 38), (1, .int wv)]) dX7_view_81 (by decide) rfl ?_
        refine r_iinc (v := (nI (m + 1))) (loc' := [(6, .int (nI (m + 1))), (4, .int la), (3, .int (nI c)), (5, .int (nI m)), (2, .int (nI j)), (0, .ref 38), (1, .int wv)]) dX7_view_83 rfl ((nI_succ _).symm) (by decide) rfl ?_
        refine r_goto (tgt := 28) dX7_view_86 (by decide) ?_
        refine qG.pick [0, 3, 1, 2, 4, 5, 6] rfl ?_
        exact hs
theorem f5c {A A' : mA} (h : Fr [5, 24, 26] A A') : Fr xC A A' := h.mo (by decide)
theorem RC.th {A S : mA} {T n z : Nat} (h : RC A S T n z) {i : Nat} (hi : i < 40) : A 12 i = S 39 i := h.1.1 i hi
set_option maxRecDepth 100000 in
set_option maxHeartbeats 1000000 in
theorem op_view (hE : hM E) (hW : WfS S T n z) (wv : Int32) : OpOK E (d + 7) mm_X6_view mm_X7_view [.int wv] S T n z := by
  have hEc := hE.c
  have hN := hW.2.2.2.2.1
  have hn := hN.1
  have h60 := hN.2.1
  obtain ⟨j, hj, ej⟩ := sg_ok hW
  by_cases hb : ∃ w, w < 5 ∧ wv = nI w
  · obtain ⟨w, hw, rfl⟩ := hb
    have hcm : ∀ (v : Int32) (wv : Int32), (∀ (A : mA) (L : mJ) (Ph : mP), RC A S T n z → (∀ A', Fr xC A A' → Ph (some (.int v)) A' L) → qC E mm_X6_view (d + 7) [.ref 0, .int wv] A L Ph) → (∀ (A : mA) (L : mJ) (Ph : mP), RM A S T → (∀ A', FM A A' → Ph (some (.int v)) A' L) → qC E mm_X7_view (d + 7) [.ref 38, .int wv] A L Ph) → OpOK E (d + 7) mm_X6_view mm_X7_view [.int wv] S T n z := fun v wv h1 h2 => ⟨.int v, S, T, n, z, ⟨_, rfl⟩, hW, fun A L Ph hR hk => h1 A L Ph hR (fun A' f => hk A' L (hR.fr f) (xR38 f)), fun A L Ph hR hk => h2 A L Ph hR (fun A' f => hk A' L (hR.fm f) f.lo)⟩
    rcases (show w = 0 ∨ w = 1 ∨ w = 2 ∨ w = 3 ∨ w = 4 by omega) with rfl | rfl | rfl | rfl | rfl
    · refine hcm (nI j) 0 (fun A L Ph hR hk => ?_) (fun A L Ph hR hk => ?_)
      · skip
        refine qC.enter (by decide) (Nat.le_of_ble_eq_true rfl) ?_
        refine r_iload_n dX6_view_0 rfl ?_
        refine r_tableIn (off := 35) (tgt := 36) dX6_view_1 (by decide) (by decide) rfl (by decide) ?_
        refine r_aload_n dX6_view_36 rfl ?_
        refine r_callV0 dX6_view_37 lk_X6_162 (ly_0 hEc) rfl (Nat.le_of_ble_eq_true rfl) (sp_cfur hEc hW hR (fun A1 f1 => ?_))
        have fc := f5c f1
        refine r_rw (y := nI j) ej ?_
        refine r_ireturn dX6_view_40 rfl rfl ?_
        exact hk A1 fc
      · skip
        refine qC.enter (by decide) (Nat.le_of_ble_eq_true rfl) ?_
        refine r_iload_n dX7_view_0 rfl ?_
        refine r_iconst (v := 0) dX7_view_1 rfl ?_
        refine r_iconst (v := 4) dX7_view_2 rfl ?_
        refine r_callS3 dX7_view_3 lk_X7_78 (Nat.le_of_ble_eq_true rfl) (in_t (j := 0) (lim := 5) rfl rfl (by decide) (by decide) ?_)
        refine r_if_ne (tgt := 12) dX7_view_6 (by decide) (fun _ => ?_) (fun hqz => absurd hqz (by decide))
        refine r_aload_n dX7_view_12 rfl ?_
        refine r_callV0 dX7_view_13 lk_X7_224 (ly_38 hE) rfl (Nat.le_of_ble_eq_true rfl) (sp_sight hE hW hR (fun A1 f1 => ?_))
        refine r_rw (y := nI j) ej ?_
        refine r_istore_n (loc' := [(2, .int (nI j)), (0, .ref 38), (1, .int 0)]) dX7_view_16 (by decide) rfl ?_
        refine r_iconst (v := 0) dX7_view_17 rfl ?_
        refine r_istore_n (loc' := [(3, .int 0), (2, .int (nI j)), (0, .ref 38), (1, .int 0)]) dX7_view_18 (by decide) rfl ?_
        refine r_iconst (v := 0) dX7_view_19 rfl ?_
        refine r_istore (loc' := [(4, .int 0), (3, .int 0), (2, .int (nI j)), (0, .ref 38), (1, .int 0)]) dX7_view_20 (by decide) rfl ?_
        refine r_iconst (v := (-1)) dX7_view_22 rfl ?_
        refine r_istore (loc' := [(5, .int (-1)), (4, .int 0), (3, .int 0), (2, .int (nI j)), (0, .ref 38), (1, .int 0)]) dX7_view_23 (by decide) rfl ?_
        refine r_iconst (v := 0) dX7_view_25 rfl ?_
        refine r_istore (loc' := [(6, .int 0), (5, .int (-1)), (4, .int 0), (3, .int 0), (2, .int (nI j)), (0, .ref 38), (1, .int 0)]) dX7_view_26 (by decide) rfl ?_
        refine qG.pick [0, 1, 2, 3, 4, 5, 6] rfl ?_
        refine vw_loop hE (f := S 39) (hR.fm f1).1 hj ?_ 40 0 (by omega)
        generalize emi : miF (S 39) 40 = mi at *
        generalize ela : laF (cutN (S 39) j) 40 = la at *
        generalize ec : cnz (cutN (S 39) j) 40 = c at *
        refine r_iload_n dX7_view_89 rfl ?_
        refine r_if_ne (tgt := 97) dX7_view_90 (by decide) (fun hqz => absurd (by decide) hqz) (fun _ => ?_)
        refine r_iload_n dX7_view_93 rfl ?_
        refine r_goto (tgt := 145) dX7_view_94 (by decide) ?_
        refine r_ireturn dX7_view_145 rfl rfl ?_
        exact hk A1 f1
    · refine hcm (nI (cnz (cutN (S 39) j) 40)) 1 (fun A L Ph hR hk => ?_) (fun A L Ph hR hk => ?_)
      · skip
        refine qC.enter (by decide) (Nat.le_of_ble_eq_true rfl) ?_
        refine r_iload_n dX6_view_0 rfl ?_
        refine r_tableIn (off := 40) (tgt := 41) dX6_view_1 (by decide) (by decide) rfl (by decide) ?_
        refine r_aload_n dX6_view_41 rfl ?_
        refine r_callV0 dX6_view_42 lk_X6_162 (ly_0 hEc) rfl (Nat.le_of_ble_eq_true rfl) (sp_cfur hEc hW hR (fun A1 f1 => ?_))
        have fc := f5c f1
        refine r_rw (y := nI j) ej ?_
        refine r_callS1 dX6_view_45 lk_X6_165 (Nat.le_of_ble_eq_true rfl) (sp_milesBelow hj ?_)
        refine r_aload_n dX6_view_48 rfl ?_
        refine r_getR dX6_view_49 fl_X6_10 (ly_0 hEc) rfl ?_
        refine r_callV0 dX6_view_52 lk_X6_169 (ly_1 hEc) rfl (Nat.le_of_ble_eq_true rfl) (sp_X2_milesWithThing hEc ?_)
        refine r_rwl (y := lN (bmN (S 39) 40)) (by rw [bmN_cong (fun i hi => (hR.fr fc).th hi)]) ?_
        refine r_land dX6_view_55 ?_
        refine r_rwl (y := lN (bmN (cutN (S 39) j) 40)) ((and_cut hj).trans (by rw [(cut_40 hj).2.1])) ?_
        refine r_callS1 dX6_view_56 lk_X6_173 (Nat.le_of_ble_eq_true rfl) (sp_J13_bitCount (cutN (S 39) j) rfl ?_)
        refine r_ireturn dX6_view_59 rfl rfl ?_
        exact hk A1 fc
      · skip
        refine qC.enter (by decide) (Nat.le_of_ble_eq_true rfl) ?_
        refine r_iload_n dX7_view_0 rfl ?_
        refine r_iconst (v := 0) dX7_view_1 rfl ?_
        refine r_iconst (v := 4) dX7_view_2 rfl ?_
        refine r_callS3 dX7_view_3 lk_X7_78 (Nat.le_of_ble_eq_true rfl) (in_t (j := 1) (lim := 5) rfl rfl (by decide) (by decide) ?_)
        refine r_if_ne (tgt := 12) dX7_view_6 (by decide) (fun _ => ?_) (fun hqz => absurd hqz (by decide))
        refine r_aload_n dX7_view_12 rfl ?_
        refine r_callV0 dX7_view_13 lk_X7_224 (ly_38 hE) rfl (Nat.le_of_ble_eq_true rfl) (sp_sight hE hW hR (fun A1 f1 => ?_))
        refine r_rw (y := nI j) ej ?_
        refine r_istore_n (loc' := [(2, .int (nI j)), (0, .ref 38), (1, .int 1)]) dX7_view_16 (by decide) rfl ?_
        refine r_iconst (v := 0) dX7_view_17 rfl ?_
        refine r_istore_n (loc' := [(3, .int 0), (2, .int (nI j)), (0, .ref 38), (1, .int 1)]) dX7_view_18 (by decide) rfl ?_
        refine r_iconst (v := 0) dX7_view_19 rfl ?_
        refine r_istore (loc' := [(4, .int 0), (3, .int 0), (2, .int (nI j)), (0, .ref 38), (1, .int 1)]) dX7_view_20 (by decide) rfl ?_
        refine r_iconst (v := (-1)) dX7_view_22 rfl ?_
        refine r_istore (loc' := [(5, .int (-1)), (4, .int 0), (3, .int 0), (2, .int (nI j)), (0, .ref 38), (1, .int 1)]) dX7_view_23 (by decide) rfl ?_
        refine r_iconst (v := 0) dX7_view_25 rfl ?_
        refine r_istore (loc' := [(6, .int 0), (5, .int (-1)), (4, .int 0), (3, .int 0), (2, .int (nI j)), (0, .ref 38), (1, .int 1)]) dX7_view_26 (by decide) rfl ?_
        refine qG.pick [0, 1, 2, 3, 4, 5, 6] rfl ?_
        refine vw_loop hE (f := S 39) (hR.fm f1).1 hj ?_ 40 0 (by omega)
        generalize emi : miF (S 39) 40 = mi at *
        generalize ela : laF (cutN (S 39) j) 40 = la at *
        generalize ec : cnz (cutN (S 39) j) 40 = c at *
        refine r_iload_n dX7_view_89 rfl ?_
        refine r_if_ne (tgt := 97) dX7_view_90 (by decide) (fun _ => ?_) (fun hqz => absurd hqz (by decide))
        refine r_iload_n dX7_view_97 rfl ?_
        refine r_iconst (v := 1) dX7_view_98 rfl ?_
        refine r_icmp_ne (tgt := 106) dX7_view_99 (by decide) (fun hqz => absurd (by decide) hqz) (fun _ => ?_)
        refine r_iload_n dX7_view_102 rfl ?_
        refine r_goto (tgt := 145) dX7_view_103 (by decide) ?_
        refine r_ireturn dX7_view_145 rfl rfl ?_
        exact hk A1 f1
    · refine hcm (laF (cutN (S 39) j) 40) 2 (fun A L Ph hR hk => ?_) (fun A L Ph hR hk => ?_)
      · skip
        refine qC.enter (by decide) (Nat.le_of_ble_eq_true rfl) ?_
        refine r_iload_n dX6_view_0 rfl ?_
        refine r_tableIn (off := 59) (tgt := 60) dX6_view_1 (by decide) (by decide) rfl (by decide) ?_
        refine r_aload_n dX6_view_60 rfl ?_
        refine r_getR dX6_view_61 fl_X6_10 (ly_0 hEc) rfl ?_
        refine r_aload_n dX6_view_64 rfl ?_
        refine r_callV0 dX6_view_65 lk_X6_162 (ly_0 hEc) rfl (Nat.le_of_ble_eq_true rfl) (sp_cfur hEc hW hR (fun A1 f1 => ?_))
        have fc := f5c f1
        refine r_rw (y := nI j) ej ?_
        refine r_callV1 dX6_view_68 lk_X6_179 (ly_1 hEc) rfl (Nat.le_of_ble_eq_true rfl) (sp_fthing hEc hj ?_)
        refine r_rw (y := laF (cutN (S 39) j) 40) (by rw [(cut_40 hj).1]; exact laF_cong (fun i hi => (hR.fr fc).th (by omega))) ?_
        refine r_ireturn dX6_view_71 rfl rfl ?_
        exact hk A1 fc
      · skip
        refine qC.enter (by decide) (Nat.le_of_ble_eq_true rfl) ?_
        refine r_iload_n dX7_view_0 rfl ?_
        refine r_iconst (v := 0) dX7_view_1 rfl ?_
        refine r_iconst (v := 4) dX7_view_2 rfl ?_
        refine r_callS3 dX7_view_3 lk_X7_78 (Nat.le_of_ble_eq_true rfl) (in_t (j := 2) (lim := 5) rfl rfl (by decide) (by decide) ?_)
        refine r_if_ne (tgt := 12) dX7_view_6 (by decide) (fun _ => ?_) (fun hqz => absurd hqz (by decide))
        refine r_aload_n dX7_view_12 rfl ?_
        refine r_callV0 dX7_view_13 lk_X7_224 (ly_38 hE) rfl (Nat.le_of_ble_eq_true rfl) (sp_sight hE hW hR (fun A1 f1 => ?_))
        refine r_rw (y := nI j) ej ?_
        refine r_istore_n (loc' := [(2, .int (nI j)), (0, .ref 38), (1, .int 2)]) dX7_view_16 (by decide) rfl ?_
        refine r_iconst (v := 0) dX7_view_17 rfl ?_
        refine r_istore_n (loc' := [(3, .int 0), (2, .int (nI j)), (0, .ref 38), (1, .int 2)]) dX7_view_18 (by decide) rfl ?_
        refine r_iconst (v := 0) dX7_view_19 rfl ?_
        refine r_istore (loc' := [(4, .int 0), (3, .int 0), (2, .int (nI j)), (0, .ref 38), (1, .int 2)]) dX7_view_20 (by decide) rfl ?_
        refine r_iconst (v := (-1)) dX7_view_22 rfl ?_
        refine r_istore (loc' := [(5, .int (-1)), (4, .int 0), (3, .int 0), (2, .int (nI j)), (0, .ref 38), (1, .int 2)]) dX7_view_23 (by decide) rfl ?_
        refine r_iconst (v := 0) dX7_view_25 rfl ?_
        refine r_istore (loc' := [(6, .int 0), (5, .int (-1)), (4, .int 0), (3, .int 0), (2, .int (nI j)), (0, .ref 38), (1, .int 2)]) dX7_view_26 (by decide) rfl ?_
        refine qG.pick [0, 1, 2, 3, 4, 5, 6] rfl ?_
        refine vw_loop hE (f := S 39) (hR.fm f1).1 hj ?_ 40 0 (by omega)
        generalize emi : miF (S 39) 40 = mi at *
        generalize ela : laF (cutN (S 39) j) 40 = la at *
        generalize ec : cnz (cutN (S 39) j) 40 = c at *
        refine r_iload_n dX7_view_89 rfl ?_
        refine r_if_ne (tgt := 97) dX7_view_90 (by decide) (fun _ => ?_) (fun hqz => absurd hqz (by decide))
        refine r_iload_n dX7_view_97 rfl ?_
        refine r_iconst (v := 1) dX7_view_98 rfl ?_
        refine r_icmp_ne (tgt := 106) dX7_view_99 (by decide) (fun _ => ?_) (fun hqz => absurd hqz (by decide))
        refine r_iload_n dX7_view_106 rfl ?_
        refine r_iconst (v := 2) dX7_view_107 rfl ?_
        refine r_icmp_ne (tgt := 116) dX7_view_108 (by decide) (fun hqz => absurd (by decide) hqz) (fun _ => ?_)
        refine r_iload dX7_view_111 rfl ?_
        refine r_goto (tgt := 145) dX7_view_113 (by decide) ?_
        refine r_ireturn dX7_view_145 rfl rfl ?_
        exact hk A1 f1
    · refine hcm (fbF (sP S) n).1 3 (fun A L Ph hR hk => ?_) (fun A L Ph hR hk => ?_)
      · skip
        refine qC.enter (by decide) (Nat.le_of_ble_eq_true rfl) ?_
        refine r_iload_n dX6_view_0 rfl ?_
        refine r_tableIn (off := 71) (tgt := 72) dX6_view_1 (by decide) (by decide) rfl (by decide) ?_
        refine r_aload_n dX6_view_72 rfl ?_
        refine r_callV0 dX6_view_73 lk_X6_182 (ly_0 hEc) rfl (Nat.le_of_ble_eq_true rfl) (sp_fpair hEc hW hR (fun A1 f1 => ?_))
        refine r_ireturn dX6_view_76 rfl rfl ?_
        exact hk A1 (f5c f1)
      · skip
        refine qC.enter (by decide) (Nat.le_of_ble_eq_true rfl) ?_
        refine r_iload_n dX7_view_0 rfl ?_
        refine r_iconst (v := 0) dX7_view_1 rfl ?_
        refine r_iconst (v := 4) dX7_view_2 rfl ?_
        refine r_callS3 dX7_view_3 lk_X7_78 (Nat.le_of_ble_eq_true rfl) (in_t (j := 3) (lim := 5) rfl rfl (by decide) (by decide) ?_)
        refine r_if_ne (tgt := 12) dX7_view_6 (by decide) (fun _ => ?_) (fun hqz => absurd hqz (by decide))
        refine r_aload_n dX7_view_12 rfl ?_
        refine r_callV0 dX7_view_13 lk_X7_224 (ly_38 hE) rfl (Nat.le_of_ble_eq_true rfl) (sp_sight hE hW hR (fun A1 f1 => ?_))
        refine r_rw (y := nI j) ej ?_
        refine r_istore_n (loc' := [(2, .int (nI j)), (0, .ref 38), (1, .int 3)]) dX7_view_16 (by decide) rfl ?_
        refine r_iconst (v := 0) dX7_view_17 rfl ?_
        refine r_istore_n (loc' := [(3, .int 0), (2, .int (nI j)), (0, .ref 38), (1, .int 3)]) dX7_view_18 (by decide) rfl ?_
        refine r_iconst (v := 0) dX7_view_19 rfl ?_
        refine r_istore (loc' := [(4, .int 0), (3, .int 0), (2, .int (nI j)), (0, .ref 38), (1, .int 3)]) dX7_view_20 (by decide) rfl ?_
        refine r_iconst (v := (-1)) dX7_view_22 rfl ?_
        refine r_istore (loc' := [(5, .int (-1)), (4, .int 0), (3, .int 0), (2, .int (nI j)), (0, .ref 38), (1, .int 3)]) dX7_view_23 (by decide) rfl ?_
        refine r_iconst (v := 0) dX7_view_25 rfl ?_
        refine r_istore (loc' := [(6, .int 0), (5, .int (-1)), (4, .int 0), (3, .int 0), (2, .int (nI j)), (0, .ref 38), (1, .int 3)]) dX7_view_26 (by decide) rfl ?_
        refine qG.pick [0, 1, 2, 3, 4, 5, 6] rfl ?_
        refine vw_loop hE (f := S 39) (hR.fm f1).1 hj ?_ 40 0 (by omega)
        generalize emi : miF (S 39) 40 = mi at *
        generalize ela : laF (cutN (S 39) j) 40 = la at *
        generalize ec : cnz (cutN (S 39) j) 40 = c at *
        refine r_iload_n dX7_view_89 rfl ?_
        refine r_if_ne (tgt := 97) dX7_view_90 (by decide) (fun _ => ?_) (fun hqz => absurd hqz (by decide))
        refine r_iload_n dX7_view_97 rfl ?_
        refine r_iconst (v := 1) dX7_view_98 rfl ?_
        refine r_icmp_ne (tgt := 106) dX7_view_99 (by decide) (fun _ => ?_) (fun hqz => absurd hqz (by decide))
        refine r_iload_n dX7_view_106 rfl ?_
        refine r_iconst (v := 2) dX7_view_107 rfl ?_
        refine r_icmp_ne (tgt := 116) dX7_view_108 (by decide) (fun _ => ?_) (fun hqz => absurd hqz (by decide))
        refine r_iload_n dX7_view_116 rfl ?_
        refine r_iconst (v := 3) dX7_view_117 rfl ?_
        refine r_icmp_ne (tgt := 128) dX7_view_118 (by decide) (fun hqz => absurd (by decide) hqz) (fun _ => ?_)
        refine r_aload_n dX7_view_121 rfl ?_
        refine r_callV0 dX7_view_122 lk_X7_221 (ly_38 hE) rfl (Nat.le_of_ble_eq_true rfl) (sp_mfur hE hW (hR.fm f1) (fun A2 f2 => ?_))
        refine r_goto (tgt := 145) dX7_view_125 (by decide) ?_
        refine r_ireturn dX7_view_145 rfl rfl ?_
        exact hk A2 (f1.tr f2)
    · rcases mi_la (S 39) 40 with ⟨e1, _⟩ | ⟨m, hm, e1, _⟩
      · refine hcm 0 4 (fun A L Ph hR hk => ?_) (fun A L Ph hR hk => ?_)
        · skip
          refine qC.enter (by decide) (Nat.le_of_ble_eq_true rfl) ?_
          refine r_iload_n dX6_view_0 rfl ?_
          refine r_tableIn (off := 76) (tgt := 77) dX6_view_1 (by decide) (by decide) rfl (by decide) ?_
          refine r_aload_n dX6_view_77 rfl ?_
          refine r_getR dX6_view_78 fl_X6_10 (ly_0 hEc) rfl ?_
          refine r_bipush (v := 40) dX6_view_81 rfl ?_
          refine r_callV1 dX6_view_83 lk_X6_185 (ly_1 hEc) rfl (Nat.le_of_ble_eq_true rfl) (sp_fmile (j := 40) hEc (Nat.le_refl _) ?_)
          refine r_rw (y := -1) (by rw [miF_cong (fun i hi => hR.th hi)]; exact e1) ?_
          refine r_istore_n (loc' := [(2, .int (-1)), (0, .ref 0), (1, .int 4)]) dX6_view_86 (by decide) rfl ?_
          refine r_iload_n dX6_view_87 rfl ?_
          refine r_iconst (v := (-1)) dX6_view_88 rfl ?_
          refine r_icmp_ne (tgt := 96) dX6_view_89 (by decide) (fun hqz => absurd (by decide) hqz) (fun _ => ?_)
          refine r_iconst (v := 0) dX6_view_92 rfl ?_
          refine r_goto (tgt := 102) dX6_view_93 (by decide) ?_
          refine r_ireturn dX6_view_102 rfl rfl ?_
          exact hk A Fr.rf
        · skip
          refine qC.enter (by decide) (Nat.le_of_ble_eq_true rfl) ?_
          refine r_iload_n dX7_view_0 rfl ?_
          refine r_iconst (v := 0) dX7_view_1 rfl ?_
          refine r_iconst (v := 4) dX7_view_2 rfl ?_
          refine r_callS3 dX7_view_3 lk_X7_78 (Nat.le_of_ble_eq_true rfl) (in_t (j := 4) (lim := 5) rfl rfl (by decide) (by decide) ?_)
          refine r_if_ne (tgt := 12) dX7_view_6 (by decide) (fun _ => ?_) (fun hqz => absurd hqz (by decide))
          refine r_aload_n dX7_view_12 rfl ?_
          refine r_callV0 dX7_view_13 lk_X7_224 (ly_38 hE) rfl (Nat.le_of_ble_eq_true rfl) (sp_sight hE hW hR (fun A1 f1 => ?_))
          refine r_rw (y := nI j) ej ?_
          refine r_istore_n (loc' := [(2, .int (nI j)), (0, .ref 38), (1, .int 4)]) dX7_view_16 (by decide) rfl ?_
          refine r_iconst (v := 0) dX7_view_17 rfl ?_
          refine r_istore_n (loc' := [(3, .int 0), (2, .int (nI j)), (0, .ref 38), (1, .int 4)]) dX7_view_18 (by decide) rfl ?_
          refine r_iconst (v := 0) dX7_view_19 rfl ?_
          refine r_istore (loc' := [(4, .int 0), (3, .int 0), (2, .int (nI j)), (0, .ref 38), (1, .int 4)]) dX7_view_20 (by decide) rfl ?_
          refine r_iconst (v := (-1)) dX7_view_22 rfl ?_
          refine r_istore (loc' := [(5, .int (-1)), (4, .int 0), (3, .int 0), (2, .int (nI j)), (0, .ref 38), (1, .int 4)]) dX7_view_23 (by decide) rfl ?_
          refine r_iconst (v := 0) dX7_view_25 rfl ?_
          refine r_istore (loc' := [(6, .int 0), (5, .int (-1)), (4, .int 0), (3, .int 0), (2, .int (nI j)), (0, .ref 38), (1, .int 4)]) dX7_view_26 (by decide) rfl ?_
          refine qG.pick [0, 1, 2, 3, 4, 5, 6] rfl ?_
          refine vw_loop hE (f := S 39) (hR.fm f1).1 hj ?_ 40 0 (by omega)
          generalize emi : miF (S 39) 40 = mi at *
          generalize ela : laF (cutN (S 39) j) 40 = la at *
          generalize ec : cnz (cutN (S 39) j) 40 = c at *
          refine r_iload_n dX7_view_89 rfl ?_
          refine r_if_ne (tgt := 97) dX7_view_90 (by decide) (fun _ => ?_) (fun hqz => absurd hqz (by decide))
          refine r_iload_n dX7_view_97 rfl ?_
          refine r_iconst (v := 1) dX7_view_98 rfl ?_
          refine r_icmp_ne (tgt := 106) dX7_view_99 (by decide) (fun _ => ?_) (fun hqz => absurd hqz (by decide))
          refine r_iload_n dX7_view_106 rfl ?_
          refine r_iconst (v := 2) dX7_view_107 rfl ?_
          refine r_icmp_ne (tgt := 116) dX7_view_108 (by decide) (fun _ => ?_) (fun hqz => absurd hqz (by decide))
          refine r_iload_n dX7_view_116 rfl ?_
          refine r_iconst (v := 3) dX7_view_117 rfl ?_
          refine r_icmp_ne (tgt := 128) dX7_view_118 (by decide) (fun _ => ?_) (fun hqz => absurd hqz (by decide))
          refine r_iload dX7_view_128 rfl ?_
          refine r_iconst (v := (-1)) dX7_view_130 rfl ?_
          refine r_icmp_ne (tgt := 138) dX7_view_131 (by decide) (fun hqz => absurd e1 hqz) (fun _ => ?_)
          refine r_iconst (v := 0) dX7_view_134 rfl ?_
          refine r_goto (tgt := 145) dX7_view_135 (by decide) ?_
          refine r_ireturn dX7_view_145 rfl rfl ?_
          exact hk A1 f1
      · refine hcm (if (1 : Int32) = 0 then (nbF (fun i => wwP S i (Gk S i (nI (m + 1)))) n).1 else (nbF (fun i => wwP S i (Gk S i (nI (m + 1)))) n).2) 4 (fun A L Ph hR hk => ?_) (fun A L Ph hR hk => ?_)
        · skip
          refine qC.enter (by decide) (Nat.le_of_ble_eq_true rfl) ?_
          refine r_iload_n dX6_view_0 rfl ?_
          refine r_tableIn (off := 76) (tgt := 77) dX6_view_1 (by decide) (by decide) rfl (by decide) ?_
          refine r_aload_n dX6_view_77 rfl ?_
          refine r_getR dX6_view_78 fl_X6_10 (ly_0 hEc) rfl ?_
          refine r_bipush (v := 40) dX6_view_81 rfl ?_
          refine r_callV1 dX6_view_83 lk_X6_185 (ly_1 hEc) rfl (Nat.le_of_ble_eq_true rfl) (sp_fmile (j := 40) hEc (Nat.le_refl _) ?_)
          refine r_rw (y := nI m) (by rw [miF_cong (fun i hi => hR.th hi)]; exact e1) ?_
          refine r_istore_n (loc' := [(2, .int (nI m)), (0, .ref 0), (1, .int 4)]) dX6_view_86 (by decide) rfl ?_
          refine r_iload_n dX6_view_87 rfl ?_
          refine r_iconst (v := (-1)) dX6_view_88 rfl ?_
          refine r_icmp_ne (tgt := 96) dX6_view_89 (by decide) (fun _ => ?_) (fun hqz => absurd hqz (nI_nm1 (by omega)))
          refine r_aload_n dX6_view_96 rfl ?_
          refine r_iload_n dX6_view_97 rfl ?_
          refine r_iconst (v := 1) dX6_view_98 rfl ?_
          refine r_callV2 dX6_view_99 lk_X6_188 (ly_0 hEc) rfl (Nat.le_of_ble_eq_true rfl) (sp_nearest hEc hW hm hR (fun A1 f1 => ?_))
          refine r_ireturn dX6_view_102 rfl rfl ?_
          exact hk A1 f1
        · skip
          refine qC.enter (by decide) (Nat.le_of_ble_eq_true rfl) ?_
          refine r_iload_n dX7_view_0 rfl ?_
          refine r_iconst (v := 0) dX7_view_1 rfl ?_
          refine r_iconst (v := 4) dX7_view_2 rfl ?_
          refine r_callS3 dX7_view_3 lk_X7_78 (Nat.le_of_ble_eq_true rfl) (in_t (j := 4) (lim := 5) rfl rfl (by decide) (by decide) ?_)
          refine r_if_ne (tgt := 12) dX7_view_6 (by decide) (fun _ => ?_) (fun hqz => absurd hqz (by decide))
          refine r_aload_n dX7_view_12 rfl ?_
          refine r_callV0 dX7_view_13 lk_X7_224 (ly_38 hE) rfl (Nat.le_of_ble_eq_true rfl) (sp_sight hE hW hR (fun A1 f1 => ?_))
          refine r_rw (y := nI j) ej ?_
          refine r_istore_n (loc' := [(2, .int (nI j)), (0, .ref 38), (1, .int 4)]) dX7_view_16 (by decide) rfl ?_
          refine r_iconst (v := 0) dX7_view_17 rfl ?_
          refine r_istore_n (loc' := [(3, .int 0), (2, .int (nI j)), (0, .ref 38), (1, .int 4)]) dX7_view_18 (by decide) rfl ?_
          refine r_iconst (v := 0) dX7_view_19 rfl ?_
          refine r_istore (loc' := [(4, .int 0), (3, .int 0), (2, .int (nI j)), (0, .ref 38), (1, .int 4)]) dX7_view_20 (by decide) rfl ?_
          refine r_iconst (v := (-1)) dX7_view_22 rfl ?_
          refine r_istore (loc' := [(5, .int (-1)), (4, .int 0), (3, .int 0), (2, .int (nI j)), (0, .ref 38), (1, .int 4)]) dX7_view_23 (by decide) rfl ?_
          refine r_iconst (v := 0) dX7_view_25 rfl ?_
          refine r_istore (loc' := [(6, .int 0), (5, .int (-1)), (4, .int 0), (3, .int 0), (2, .int (nI j)), (0, .ref 38), (1, .int 4)]) dX7_view_26 (by decide) rfl ?_
          refine qG.pick [0, 1, 2, 3, 4, 5, 6] rfl ?_
          refine vw_loop hE (f := S 39) (hR.fm f1).1 hj ?_ 40 0 (by omega)
          generalize emi : miF (S 39) 40 = mi at *
          generalize ela : laF (cutN (S 39) j) 40 = la at *
          generalize ec : cnz (cutN (S 39) j) 40 = c at *
          refine r_iload_n dX7_view_89 rfl ?_
          refine r_if_ne (tgt := 97) dX7_view_90 (by decide) (fun _ => ?_) (fun hqz => absurd hqz (by decide))
          refine r_iload_n dX7_view_97 rfl ?_
          refine r_iconst (v := 1) dX7_view_98 rfl ?_
          refine r_icmp_ne (tgt := 106) dX7_view_99 (by decide) (fun _ => ?_) (fun hqz => absurd hqz (by decide))
          refine r_iload_n dX7_view_106 rfl ?_
          refine r_iconst (v := 2) dX7_view_107 rfl ?_
          refine r_icmp_ne (tgt := 116) dX7_view_108 (by decide) (fun _ => ?_) (fun hqz => absurd hqz (by decide))
          refine r_iload_n dX7_view_116 rfl ?_
          refine r_iconst (v := 3) dX7_view_117 rfl ?_
          refine r_icmp_ne (tgt := 128) dX7_view_118 (by decide) (fun _ => ?_) (fun hqz => absurd hqz (by decide))
          refine r_iload dX7_view_128 rfl ?_
          refine r_iconst (v := (-1)) dX7_view_130 rfl ?_
          refine r_icmp_ne (tgt := 138) dX7_view_131 (by decide) (fun _ => ?_) (fun hqz => absurd hqz (fun z => nI_nm1 (by omega) (e1.symm.trans z)))
          refine r_aload_n dX7_view_138 rfl ?_
          refine r_iload dX7_view_139 rfl ?_
          refine r_rw (y := nI m) e1 ?_
          refine r_iconst (v := 1) dX7_view_141 rfl ?_
          refine r_callV2 dX7_view_142 lk_X7_227 (ly_38 hE) rfl (Nat.le_of_ble_eq_true rfl) (sp_whomBy hE hW hm (hR.fm f1) (fun A2 f2 => ?_))
          refine r_ireturn dX7_view_145 rfl rfl ?_
          exact hk A2 (f1.tr f2)
  · refine ⟨.int (-2), S, T, n, z, ⟨_, rfl⟩, hW, fun A L Ph hR hk => ?_, fun A L Ph hR hk => ?_⟩
    · have K := hk A L hR (fun _ _ => rfl)
      have e1_0 : ¬ wv = 0 := fun z => hb ⟨0, by decide, z⟩
      have e1_1 : ¬ wv = 1 := fun z => hb ⟨1, by decide, z⟩
      have e1_2 : ¬ wv = 2 := fun z => hb ⟨2, by decide, z⟩
      have e1_3 : ¬ wv = 3 := fun z => hb ⟨3, by decide, z⟩
      have e1_4 : ¬ wv = 4 := fun z => hb ⟨4, by decide, z⟩
      refine qC.enter (by decide) (Nat.le_of_ble_eq_true rfl) ?_
      refine r_iload_n dX6_view_0 rfl ?_
      refine r_tableOut (tgt := 103) dX6_view_1 (sw_0_4 e1_0 e1_1 e1_2 e1_3 e1_4) (by decide) ?_
      refine r_bipush (v := (-2)) dX6_view_103 rfl ?_
      refine r_ireturn dX6_view_105 rfl rfl ?_
      exact K
    · have K := hk A L hR (fun _ _ => rfl)
      refine qC.enter (by decide) (Nat.le_of_ble_eq_true rfl) ?_
      refine r_iload_n dX7_view_0 rfl ?_
      refine r_iconst (v := 0) dX7_view_1 rfl ?_
      refine r_iconst (v := 4) dX7_view_2 rfl ?_
      refine r_callS3 dX7_view_3 lk_X7_78 (Nat.le_of_ble_eq_true rfl) (in_f 5 rfl rfl (by decide) (fun y hy ey => hb ⟨y, hy, ey⟩) ?_)
      refine r_if_ne (tgt := 12) dX7_view_6 (by decide) (fun hqz => absurd (by decide) hqz) (fun _ => ?_)
      refine r_bipush (v := (-2)) dX7_view_9 rfl ?_
      refine r_ireturn dX7_view_11 rfl rfl ?_
      exact K
set_option maxRecDepth 100000 in
set_option maxHeartbeats 1000000 in
theorem cl2_loop (hE : hM E) (hA : A 39 = S 39) (hj : j ≤ 40) (h : Ph (some (.long (lN (bmN (S 39) j)))) A L) : ∀ (k m : Nat), m + k = j → qG E mm_X7_clear d 54 [(5, .int (nI m)), (3, .long (lN (bmN (S 39) m))), (2, .int (nI j)), (0, .ref 38), (1, .int 2)] [] A L Ph := by
  intro k
  induction k with
  | zero =>
    intro m hm
    have hm : m = j := by omega
    subst hm
    refine r_iload dX7_clear_54 rfl ?_
    refine r_iload_n dX7_clear_56 rfl ?_
    refine r_icmp_ge (tgt := 87) dX7_clear_57 (by decide) (fun _ => ?_) (fun hqz => absurd (nI_le (Nat.le_refl _) (by omega)) hqz)
    refine r_lload_n dX7_clear_87 rfl ?_
    refine r_lreturn dX7_clear_88 rfl ?_
    exact h
  | succ k ih =>
    intro m hm
    have hlt := bmN_lt (S 39) m
    refine r_iload dX7_clear_54 rfl ?_
    refine r_iload_n dX7_clear_56 rfl ?_
    refine r_icmp_ge (tgt := 87) dX7_clear_57 (by decide) (fun hqz => absurd hqz (nI_ge (show m < j by omega) (by omega))) (fun _ => ?_)
    refine r_lload_n dX7_clear_60 rfl ?_
    refine r_aload_n dX7_clear_61 rfl ?_
    refine r_getR dX7_clear_62 fl_X7_7 (ly_38 hE) rfl ?_
    refine r_iload dX7_clear_65 rfl ?_
    refine r_ialdN dX7_clear_67 (ly_39 hE) (by omega) (by decide) ?_
    refine r_rw (y := S 39 m) (by rw [hA]) ?_
    refine r_if_eq (tgt := 78) dX7_clear_68 (by decide) (fun b68 => ?_) (fun b68 => ?_)
    · refine r_lconst (v := 0) dX7_clear_78 rfl ?_
      refine r_lor dX7_clear_79 ?_
      first | refine r_rwl (y := lN (bmN (S 39) (m + 1))) (show lN (bmN (S 39) m) ||| lN 1 <<< ((nI m).toInt64 &&& 63) = _ by rw [shl1 (by omega), fb_orL, bmN, if_pos b68]; congr 1; have := Nat.two_pow_add_eq_or_of_lt hlt 1; rw [Nat.mul_one] at this; rw [Nat.or_comm, ← this, Nat.add_comm]) ?_ | refine r_rwl (y := lN (bmN (S 39) (m + 1))) (show lN (bmN (S 39) m) ||| lN 0 = _ by rw [fb_orL, Nat.or_zero, bmN, if_neg (not_not_intro b68), Nat.add_zero]) ?_
      refine r_lstore_n (loc' := [(3, .long (lN (bmN (S 39) (m + 1)))), (5, .int (nI m)), (2, .int (nI j)), (0, .ref 38), (1, .int 2)]) dX7_clear_80 (by decide) rfl ?_
      refine r_iinc (v := (nI (m + 1))) (loc' := [(5, .int (nI (m + 1))), (3, .long (lN (bmN (S 39) (m + 1)))), (2, .int (nI j)), (0, .ref 38), (1, .int 2)]) dX7_clear_81 rfl ((nI_succ _).symm) (by decide) rfl ?_
      refine r_goto (tgt := 54) dX7_clear_84 (by decide) ?_
      refine qG.pick [0, 1, 2, 3, 4] rfl ?_
      exact ih (m + 1) (by omega)
    · refine r_lconst (v := 1) dX7_clear_71 rfl ?_
      refine r_iload dX7_clear_72 rfl ?_
      refine r_lshl dX7_clear_74 ?_
      refine r_goto (tgt := 79) dX7_clear_75 (by decide) ?_
      refine r_lor dX7_clear_79 ?_
      first | refine r_rwl (y := lN (bmN (S 39) (m + 1))) (show lN (bmN (S 39) m) ||| lN 1 <<< ((nI m).toInt64 &&& 63) = _ by rw [shl1 (by omega), fb_orL, bmN, if_pos b68]; congr 1; have := Nat.two_pow_add_eq_or_of_lt hlt 1; rw [Nat.mul_one] at this; rw [Nat.or_comm, ← this, Nat.add_comm]) ?_ | refine r_rwl (y := lN (bmN (S 39) (m + 1))) (show lN (bmN (S 39) m) ||| lN 0 = _ by rw [fb_orL, Nat.or_zero, bmN, if_neg (not_not_intro b68), Nat.add_zero]) ?_
      refine r_lstore_n (loc' := [(3, .long (lN (bmN (S 39) (m + 1)))), (5, .int (nI m)), (2, .int (nI j)), (0, .ref 38), (1, .int 2)]) dX7_clear_80 (by decide) rfl ?_
      refine r_iinc (v := (nI (m + 1))) (loc' := [(5, .int (nI (m + 1))), (3, .long (lN (bmN (S 39) (m + 1)))), (2, .int (nI j)), (0, .ref 38), (1, .int 2)]) dX7_clear_81 rfl ((nI_succ _).symm) (by decide) rfl ?_
      refine r_goto (tgt := 54) dX7_clear_84 (by decide) ?_
      refine qG.pick [0, 1, 2, 3, 4] rfl ?_
      exact ih (m + 1) (by omega)
set_option maxRecDepth 100000 in
set_option maxHeartbeats 1000000 in
theorem op_clear (hE : hM E) (hW : WfS S T n z) (wv : Int32) : OpOK E (d + 7) mm_X6_clear mm_X7_clear [.int wv] S T n z := by
  have hEc := hE.c
  have hN := hW.2.2.2.2.1
  have hn := hN.1
  have h60 := hN.2.1
  obtain ⟨j, hj, ej⟩ := sg_ok hW
  by_cases hb : ∃ w, w < 3 ∧ wv = nI w
  · obtain ⟨w, hw, rfl⟩ := hb
    have hcm : ∀ (v : Int64) (wv : Int32), (∀ (A : mA) (L : mJ) (Ph : mP), RC A S T n z → (∀ A', Fr xC A A' → Ph (some (.long v)) A' L) → qC E mm_X6_clear (d + 7) [.ref 0, .int wv] A L Ph) → (∀ (A : mA) (L : mJ) (Ph : mP), RM A S T → (∀ A', FM A A' → Ph (some (.long v)) A' L) → qC E mm_X7_clear (d + 7) [.ref 38, .int wv] A L Ph) → OpOK E (d + 7) mm_X6_clear mm_X7_clear [.int wv] S T n z := fun v wv h1 h2 => ⟨.long v, S, T, n, z, ⟨_, rfl⟩, hW, fun A L Ph hR hk => h1 A L Ph hR (fun A' f => hk A' L (hR.fr f) (xR38 f)), fun A L Ph hR hk => h2 A L Ph hR (fun A' f => hk A' L (hR.fm f) f.lo)⟩
    rcases (show w = 0 ∨ w = 1 ∨ w = 2 by omega) with rfl | rfl | rfl
    · refine hcm (lN (2 ^ j - 1)) 0 (fun A L Ph hR hk => ?_) (fun A L Ph hR hk => ?_)
      · skip
        refine qC.enter (by decide) (Nat.le_of_ble_eq_true rfl) ?_
        refine r_iload_n dX6_clear_0 rfl ?_
        refine r_tableIn (off := 27) (tgt := 28) dX6_clear_1 (by decide) (by decide) rfl (by decide) ?_
        refine r_aload_n dX6_clear_28 rfl ?_
        refine r_callV0 dX6_clear_29 lk_X6_162 (ly_0 hEc) rfl (Nat.le_of_ble_eq_true rfl) (sp_cfur hEc hW hR (fun A1 f1 => ?_))
        have fc := f5c f1
        refine r_rw (y := nI j) ej ?_
        refine r_callS1 dX6_clear_32 lk_X6_165 (Nat.le_of_ble_eq_true rfl) (sp_milesBelow hj ?_)
        refine r_lreturn dX6_clear_35 rfl ?_
        exact hk A1 fc
      · skip
        refine qC.enter (by decide) (Nat.le_of_ble_eq_true rfl) ?_
        refine r_iload_n dX7_clear_0 rfl ?_
        refine r_iconst (v := 0) dX7_clear_1 rfl ?_
        refine r_iconst (v := 2) dX7_clear_2 rfl ?_
        refine r_callS3 dX7_clear_3 lk_X7_78 (Nat.le_of_ble_eq_true rfl) (in_t (j := 0) (lim := 3) rfl rfl (by decide) (by decide) ?_)
        refine r_if_ne (tgt := 13) dX7_clear_6 (by decide) (fun _ => ?_) (fun hqz => absurd hqz (by decide))
        refine r_iload_n dX7_clear_13 rfl ?_
        refine r_if_ne (tgt := 25) dX7_clear_14 (by decide) (fun hqz => absurd (by decide) hqz) (fun _ => ?_)
        refine r_aload_n dX7_clear_17 rfl ?_
        refine r_callV0 dX7_clear_18 lk_X7_224 (ly_38 hE) rfl (Nat.le_of_ble_eq_true rfl) (sp_sight hE hW hR (fun A1 f1 => ?_))
        refine r_rw (y := nI j) ej ?_
        refine r_callS1 dX7_clear_21 lk_X7_232 (Nat.le_of_ble_eq_true rfl) (sp_bits hj ?_)
        refine r_lreturn dX7_clear_24 rfl ?_
        exact hk A1 f1
    · have hfe := feF_le hW n (Nat.le_refl _)
      refine hcm (lN (2 ^ 40 - 1) - lN (2 ^ feF S n - 1)) 1 (fun A L Ph hR hk => ?_) (fun A L Ph hR hk => ?_)
      · skip
        refine qC.enter (by decide) (Nat.le_of_ble_eq_true rfl) ?_
        refine r_iload_n dX6_clear_0 rfl ?_
        refine r_tableIn (off := 35) (tgt := 36) dX6_clear_1 (by decide) (by decide) rfl (by decide) ?_
        refine r_bipush (v := 40) dX6_clear_36 rfl ?_
        refine r_callS1 dX6_clear_38 lk_X6_165 (Nat.le_of_ble_eq_true rfl) (sp_milesBelow (j := 40) (Nat.le_refl _) ?_)
        refine r_aload_n dX6_clear_41 rfl ?_
        refine r_callV0 dX6_clear_42 lk_X6_191 (ly_0 hEc) rfl (Nat.le_of_ble_eq_true rfl) (sp_furthestReached hEc hW hR (fun A1 f1 => ?_))
        refine r_callS1 dX6_clear_45 lk_X6_165 (Nat.le_of_ble_eq_true rfl) (sp_milesBelow hfe ?_)
        refine r_ldc2 dX6_clear_48 kc_X6_194 ?_
        refine r_lxor dX6_clear_51 ?_
        refine r_land dX6_clear_52 ?_
        refine r_rwl (y := lN (2 ^ 40 - 1) - lN (2 ^ feF S n - 1)) (not_cut _ (by omega)) ?_
        refine r_lreturn dX6_clear_53 rfl ?_
        exact hk A1 f1
      · skip
        refine qC.enter (by decide) (Nat.le_of_ble_eq_true rfl) ?_
        refine r_iload_n dX7_clear_0 rfl ?_
        refine r_iconst (v := 0) dX7_clear_1 rfl ?_
        refine r_iconst (v := 2) dX7_clear_2 rfl ?_
        refine r_callS3 dX7_clear_3 lk_X7_78 (Nat.le_of_ble_eq_true rfl) (in_t (j := 1) (lim := 3) rfl rfl (by decide) (by decide) ?_)
        refine r_if_ne (tgt := 13) dX7_clear_6 (by decide) (fun _ => ?_) (fun hqz => absurd hqz (by decide))
        refine r_iload_n dX7_clear_13 rfl ?_
        refine r_if_ne (tgt := 25) dX7_clear_14 (by decide) (fun _ => ?_) (fun hqz => absurd hqz (by decide))
        refine r_iload_n dX7_clear_25 rfl ?_
        refine r_iconst (v := 1) dX7_clear_26 rfl ?_
        refine r_icmp_ne (tgt := 44) dX7_clear_27 (by decide) (fun hqz => absurd (by decide) hqz) (fun _ => ?_)
        refine r_bipush (v := 40) dX7_clear_30 rfl ?_
        refine r_callS1 dX7_clear_32 lk_X7_232 (Nat.le_of_ble_eq_true rfl) (sp_bits (j := 40) (Nat.le_refl _) ?_)
        refine r_aload_n dX7_clear_35 rfl ?_
        refine r_callV0 dX7_clear_36 lk_X7_236 (ly_38 hE) rfl (Nat.le_of_ble_eq_true rfl) (sp_farthestEver hE hW hR (fun A1 f1 => ?_))
        refine r_callS1 dX7_clear_39 lk_X7_232 (Nat.le_of_ble_eq_true rfl) (sp_bits hfe ?_)
        refine r_lsub dX7_clear_42 ?_
        refine r_lreturn dX7_clear_43 rfl ?_
        exact hk A1 f1
    · refine hcm (lN (bmN (S 39) j)) 2 (fun A L Ph hR hk => ?_) (fun A L Ph hR hk => ?_)
      · skip
        refine qC.enter (by decide) (Nat.le_of_ble_eq_true rfl) ?_
        refine r_iload_n dX6_clear_0 rfl ?_
        refine r_tableIn (off := 53) (tgt := 54) dX6_clear_1 (by decide) (by decide) rfl (by decide) ?_
        refine r_aload_n dX6_clear_54 rfl ?_
        refine r_callV0 dX6_clear_55 lk_X6_162 (ly_0 hEc) rfl (Nat.le_of_ble_eq_true rfl) (sp_cfur hEc hW hR (fun A1 f1 => ?_))
        have fc := f5c f1
        refine r_rw (y := nI j) ej ?_
        refine r_callS1 dX6_clear_58 lk_X6_165 (Nat.le_of_ble_eq_true rfl) (sp_milesBelow hj ?_)
        refine r_aload_n dX6_clear_61 rfl ?_
        refine r_getR dX6_clear_62 fl_X6_10 (ly_0 hEc) rfl ?_
        refine r_callV0 dX6_clear_65 lk_X6_169 (ly_1 hEc) rfl (Nat.le_of_ble_eq_true rfl) (sp_X2_milesWithThing hEc ?_)
        refine r_rwl (y := lN (bmN (S 39) 40)) (by rw [bmN_cong (fun i hi => (hR.fr fc).th hi)]) ?_
        refine r_land dX6_clear_68 ?_
        refine r_rwl (y := lN (bmN (S 39) j)) (and_cut hj) ?_
        refine r_lreturn dX6_clear_69 rfl ?_
        exact hk A1 fc
      · skip
        refine qC.enter (by decide) (Nat.le_of_ble_eq_true rfl) ?_
        refine r_iload_n dX7_clear_0 rfl ?_
        refine r_iconst (v := 0) dX7_clear_1 rfl ?_
        refine r_iconst (v := 2) dX7_clear_2 rfl ?_
        refine r_callS3 dX7_clear_3 lk_X7_78 (Nat.le_of_ble_eq_true rfl) (in_t (j := 2) (lim := 3) rfl rfl (by decide) (by decide) ?_)
        refine r_if_ne (tgt := 13) dX7_clear_6 (by decide) (fun _ => ?_) (fun hqz => absurd hqz (by decide))
        refine r_iload_n dX7_clear_13 rfl ?_
        refine r_if_ne (tgt := 25) dX7_clear_14 (by decide) (fun _ => ?_) (fun hqz => absurd hqz (by decide))
        refine r_iload_n dX7_clear_25 rfl ?_
        refine r_iconst (v := 1) dX7_clear_26 rfl ?_
        refine r_icmp_ne (tgt := 44) dX7_clear_27 (by decide) (fun _ => ?_) (fun hqz => absurd hqz (by decide))
        refine r_aload_n dX7_clear_44 rfl ?_
        refine r_callV0 dX7_clear_45 lk_X7_224 (ly_38 hE) rfl (Nat.le_of_ble_eq_true rfl) (sp_sight hE hW hR (fun A1 f1 => ?_))
        refine r_rw (y := nI j) ej ?_
        refine r_istore_n (loc' := [(2, .int (nI j)), (0, .ref 38), (1, .int 2)]) dX7_clear_48 (by decide) rfl ?_
        refine r_lconst (v := 0) dX7_clear_49 rfl ?_
        refine r_lstore_n (loc' := [(3, .long 0), (2, .int (nI j)), (0, .ref 38), (1, .int 2)]) dX7_clear_50 (by decide) rfl ?_
        refine r_iconst (v := 0) dX7_clear_51 rfl ?_
        refine r_istore (loc' := [(5, .int 0), (3, .long 0), (2, .int (nI j)), (0, .ref 38), (1, .int 2)]) dX7_clear_52 (by decide) rfl ?_
        refine qG.pick [0, 1, 2, 3, 4] rfl ?_
        exact cl2_loop hE (hR.fm f1).1 hj (hk A1 f1) j 0 (by omega)
  · refine ⟨.long (-4611686018427387904), S, T, n, z, ⟨_, rfl⟩, hW, fun A L Ph hR hk => ?_, fun A L Ph hR hk => ?_⟩
    · have K := hk A L hR (fun _ _ => rfl)
      have e1_0 : ¬ wv = 0 := fun z => hb ⟨0, by decide, z⟩
      have e1_1 : ¬ wv = 1 := fun z => hb ⟨1, by decide, z⟩
      have e1_2 : ¬ wv = 2 := fun z => hb ⟨2, by decide, z⟩
      refine qC.enter (by decide) (Nat.le_of_ble_eq_true rfl) ?_
      refine r_iload_n dX6_clear_0 rfl ?_
      refine r_tableOut (tgt := 70) dX6_clear_1 (sw_0_2 e1_0 e1_1 e1_2) (by decide) ?_
      refine r_ldc2 dX6_clear_70 kc_X6_196 ?_
      refine r_lreturn dX6_clear_73 rfl ?_
      exact K
    · have K := hk A L hR (fun _ _ => rfl)
      refine qC.enter (by decide) (Nat.le_of_ble_eq_true rfl) ?_
      refine r_iload_n dX7_clear_0 rfl ?_
      refine r_iconst (v := 0) dX7_clear_1 rfl ?_
      refine r_iconst (v := 2) dX7_clear_2 rfl ?_
      refine r_callS3 dX7_clear_3 lk_X7_78 (Nat.le_of_ble_eq_true rfl) (in_f 3 rfl rfl (by decide) (fun y hy ey => hb ⟨y, hy, ey⟩) ?_)
      refine r_if_ne (tgt := 13) dX7_clear_6 (by decide) (fun hqz => absurd (by decide) hqz) (fun _ => ?_)
      refine r_ldc2 dX7_clear_9 kc_X7_230 ?_
      refine r_lreturn dX7_clear_12 rfl ?_
      exact K
end VW2
