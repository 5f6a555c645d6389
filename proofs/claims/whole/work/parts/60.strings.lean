/-! texts: charAt, length, indexOf -/
abbrev txc (i j : Nat) : Int32 := (mTx.getD i []).getD j 0
theorem tx_ok : ∀ i, i < 3 → ∀ j, j < mTl.getD i 0 → narrow .char (.int (txc i j)) = .int (txc i j) ∧ ((((txc i j) &&& 255).toUInt32 % 65536).toInt32 = txc i j) := by decide +kernel
theorem tx_len : ∀ i, i < 3 → (nI (mTl.getD i 0)) >>> ((0 : Int32) &&& 31) = nI (mTl.getD i 0) := by decide
theorem tx_pos : ∀ i, i < 3 → 0 < mTl.getD i 0 ∧ mTl.getD i 0 < 100 := by decide
def inS (b : Nat) : Bool := [40, 41, 59, 43, 45, 42, 60, 61].contains b
theorem ix_yes : ∀ b, b < 256 → ∀ k, k < 8 → txc 2 k = (nI b).toInt8.toInt32 → inS b = true := by decide +kernel
theorem ix_no : ∀ b, b < 256 → inS b = true → ∃ k, k < 8 ∧ txc 2 k = (nI b).toInt8.toInt32 := by decide +kernel
section STRS
variable {E : mE} {d : Nat} {A : mA} {L : mJ} {Ph : mP} {i j : Nat}
theorem sp_J0_isLatin1_aae02 (hi : i < 3) (h : Ph (some (.int 1)) A L) : qC E mm_J0_isLatin1_aae02 d [.ref (1002 + i)] A L Ph := by
  refine qC.enter (by decide) (Nat.le_of_ble_eq_true rfl) ?_
  refine r_gsCS dJ0_isLatin1_aae02_0 rfl ?_
  refine r_if_eq (tgt := 17) dJ0_isLatin1_aae02_3 (by decide) (fun hqz => absurd hqz (by decide)) (fun _ => ?_)
  refine r_aload_n dJ0_isLatin1_aae02_6 rfl ?_
  refine r_stC dJ0_isLatin1_aae02_7 rfl hi ?_
  refine r_if_ne (tgt := 17) dJ0_isLatin1_aae02_10 (by decide) (fun hqz => absurd (by decide) hqz) (fun _ => ?_)
  refine r_iconst (v := 1) dJ0_isLatin1_aae02_13 rfl ?_
  refine r_goto (tgt := 18) dJ0_isLatin1_aae02_14 (by decide) ?_
  refine r_ireturn dJ0_isLatin1_aae02_18 rfl (by decide) ?_
  exact h
theorem sp_J0_coder_7d493 (hi : i < 3) (h : Ph (some (.int 0)) A L) : qC E mm_J0_coder_7d493 d [.ref (1002 + i)] A L Ph := by
  refine qC.enter (by decide) (Nat.le_of_ble_eq_true rfl) ?_
  refine r_gsCS dJ0_coder_7d493_0 rfl ?_
  refine r_if_eq (tgt := 13) dJ0_coder_7d493_3 (by decide) (fun hqz => absurd hqz (by decide)) (fun _ => ?_)
  refine r_aload_n dJ0_coder_7d493_6 rfl ?_
  refine r_stC dJ0_coder_7d493_7 rfl hi ?_
  refine r_goto (tgt := 14) dJ0_coder_7d493_10 (by decide) ?_
  refine r_ireturn dJ0_coder_7d493_14 rfl (by decide) ?_
  exact h
set_option maxRecDepth 100000 in
set_option maxHeartbeats 1000000 in
theorem sp_length (hi : i < 3) (h : Ph (some (.int (nI (mTl.getD i 0)))) A L) : qC E mm_J0_length_8abf5 (d + 1) [.ref (1002 + i)] A L Ph := by
  refine qC.enter (by decide) (Nat.le_of_ble_eq_true rfl) ?_
  refine r_aload_n dJ0_length_8abf5_0 rfl ?_
  refine r_stV dJ0_length_8abf5_1 rfl hi ?_
  refine r_txlen dJ0_length_8abf5_4 hi ?_
  refine r_aload_n dJ0_length_8abf5_5 rfl ?_
  refine r_callX0 dJ0_length_8abf5_6 lk_J0_335 rfl hi (Nat.le_of_ble_eq_true rfl) (sp_J0_coder_7d493 hi ?_)
  refine r_ishr dJ0_length_8abf5_9 ?_
  refine r_rw (y := nI (mTl.getD i 0)) (tx_len i hi) ?_
  refine r_ireturn dJ0_length_8abf5_10 rfl rfl ?_
  exact h
set_option maxRecDepth 100000 in
set_option maxHeartbeats 1000000 in
theorem sp_J3_checkIndex {n : Nat} {v : Value} (hv : v = .null ∨ v = .ref 1008) (hj : j < n) (hn : n < 2 ^ 31) (h : Ph (some (.int (nI j))) A L) : qC E mm_J3_checkIndex_8e157 d [.int (nI j), .int (nI n), v] A L Ph := by
  rcases hv with rfl | rfl
  · refine qC.enter (by decide) (Nat.le_of_ble_eq_true rfl) ?_
    refine r_iload_n dJ3_checkIndex_8e157_0 rfl ?_
    refine r_if_lt (tgt := 9) dJ3_checkIndex_8e157_1 (by decide) (fun hqz => absurd hqz (i_nle (nI_le (a := 0) (Nat.zero_le j) (by omega)))) (fun _ => ?_)
    refine r_iload_n dJ3_checkIndex_8e157_4 rfl ?_
    refine r_iload_n dJ3_checkIndex_8e157_5 rfl ?_
    refine r_icmp_lt (tgt := 16) dJ3_checkIndex_8e157_6 (by decide) (fun _ => ?_) (fun hqz => absurd (nI_lt hj hn) hqz)
    refine r_iload_n dJ3_checkIndex_8e157_16 rfl ?_
    refine r_ireturn dJ3_checkIndex_8e157_17 rfl rfl ?_
    exact h
  · refine qC.enter (by decide) (Nat.le_of_ble_eq_true rfl) ?_
    refine r_iload_n dJ3_checkIndex_8e157_0 rfl ?_
    refine r_if_lt (tgt := 9) dJ3_checkIndex_8e157_1 (by decide) (fun hqz => absurd hqz (i_nle (nI_le (a := 0) (Nat.zero_le j) (by omega)))) (fun _ => ?_)
    refine r_iload_n dJ3_checkIndex_8e157_4 rfl ?_
    refine r_iload_n dJ3_checkIndex_8e157_5 rfl ?_
    refine r_icmp_lt (tgt := 16) dJ3_checkIndex_8e157_6 (by decide) (fun _ => ?_) (fun hqz => absurd (nI_lt hj hn) hqz)
    refine r_iload_n dJ3_checkIndex_8e157_16 rfl ?_
    refine r_ireturn dJ3_checkIndex_8e157_17 rfl rfl ?_
    exact h
set_option maxRecDepth 100000 in
set_option maxHeartbeats 1000000 in
theorem sp_J0_checkIndex {n : Nat} (hj : j < n) (hn : n < 2 ^ 31) (h : Ph none A L) : qC E mm_J0_checkIndex_df160 (d + 1) [.int (nI j), .int (nI n)] A L Ph := by
  refine qC.enter (by decide) (Nat.le_of_ble_eq_true rfl) ?_
  refine r_iload_n dJ0_checkIndex_df160_0 rfl ?_
  refine r_iload_n dJ0_checkIndex_df160_1 rfl ?_
  refine r_gsFm dJ0_checkIndex_df160_2 rfl (fun v hv => ?_)
  refine r_callS3 dJ0_checkIndex_df160_5 lk_J0_1059 (Nat.le_of_ble_eq_true rfl) (sp_J3_checkIndex hv hj hn ?_)
  refine r_pop dJ0_checkIndex_df160_8 rfl ?_
  refine r_return dJ0_checkIndex_df160_9 rfl ?_
  exact h
set_option maxRecDepth 100000 in
set_option maxHeartbeats 1000000 in
theorem sp_J1_charAt (hi : i < 3) (hj : j < mTl.getD i 0) (h : Ph (some (.int (txc i j))) A L) : qC E mm_J1_charAt_3b067 (d + 2) [.ref (1005 + i), .int (nI j)] A L Ph := by
  have ht := tx_pos i hi
  refine qC.enter (by decide) (Nat.le_of_ble_eq_true rfl) ?_
  refine r_iload_n dJ1_charAt_3b067_0 rfl ?_
  refine r_aload_n dJ1_charAt_3b067_1 rfl ?_
  refine r_txlen dJ1_charAt_3b067_2 hi ?_
  refine r_callS2 dJ1_charAt_3b067_3 lk_J1_9 (Nat.le_of_ble_eq_true rfl) (sp_J0_checkIndex hj (by omega) ?_)
  refine r_aload_n dJ1_charAt_3b067_6 rfl ?_
  refine r_iload_n dJ1_charAt_3b067_7 rfl ?_
  refine r_txld dJ1_charAt_3b067_8 hi (hj) ?_
  refine r_sipush (v := 255) dJ1_charAt_3b067_9 rfl ?_
  refine r_iand dJ1_charAt_3b067_12 ?_
  refine r_i2c dJ1_charAt_3b067_13 ?_
  refine r_rw (y := txc i j) (tx_ok i hi j hj).2 ?_
  refine r_ireturn dJ1_charAt_3b067_14 rfl (tx_ok i hi j hj).1 ?_
  exact h
set_option maxRecDepth 100000 in
set_option maxHeartbeats 1000000 in
theorem sp_charAt (hi : i < 3) (hj : j < mTl.getD i 0) (h : Ph (some (.int (txc i j))) A L) : qC E mm_J0_charAt_5068e (d + 3) [.ref (1002 + i), .int (nI j)] A L Ph := by
  refine qC.enter (by decide) (Nat.le_of_ble_eq_true rfl) ?_
  refine r_aload_n dJ0_charAt_5068e_0 rfl ?_
  refine r_callX0 dJ0_charAt_5068e_1 lk_J0_492 rfl hi (Nat.le_of_ble_eq_true rfl) (sp_J0_isLatin1_aae02 hi ?_)
  refine r_if_eq (tgt := 16) dJ0_charAt_5068e_4 (by decide) (fun hqz => absurd hqz (by decide)) (fun _ => ?_)
  refine r_aload_n dJ0_charAt_5068e_7 rfl ?_
  refine r_stV dJ0_charAt_5068e_8 rfl hi ?_
  refine r_iload_n dJ0_charAt_5068e_11 rfl ?_
  refine r_callS2 dJ0_charAt_5068e_12 lk_J0_495 (Nat.le_of_ble_eq_true rfl) (sp_J1_charAt hi hj ?_)
  refine r_ireturn dJ0_charAt_5068e_15 rfl (tx_ok i hi j hj).1 ?_
  exact h
set_option maxRecDepth 100000 in
set_option maxHeartbeats 1000000 in
theorem io_loop {b : Nat} (hb : b < 256) {t u v : Int32} (ht : t = (nI b).toInt8.toInt32) (h1 : inS b = true → ∀ k, k < 8 → Ph (some (.int (nI k))) A L) (h0 : ¬ inS b = true → Ph (some (.int (-1))) A L) : ∀ (m k : Nat), k + m = 8 → (∀ q, q < k → ¬ txc 2 q = t) → qG E mm_J1_indexOfChar_4cfef d 7 [(5, .int (nI k)), (4, .int t), (0, .ref (1005 + 2)), (1, .int u), (2, .int v), (3, .int (nI (mTl.getD 2 0)))] [] A L Ph := by
  have hi : 2 < 3 := by decide
  intro m
  induction m with
  | zero =>
    intro k hk hn
    have hk : k = 8 := by omega
    subst hk
    refine r_iload dJ1_indexOfChar_4cfef_7 rfl ?_
    refine r_iload_n dJ1_indexOfChar_4cfef_9 rfl ?_
    refine r_icmp_ge (tgt := 31) dJ1_indexOfChar_4cfef_10 (by decide) (fun _ => ?_) (fun hqz => absurd (by decide) hqz)
    refine r_iconst (v := (-1)) dJ1_indexOfChar_4cfef_31 rfl ?_
    refine r_ireturn dJ1_indexOfChar_4cfef_32 rfl rfl ?_
    refine h0 (fun q => ?_)
    obtain ⟨k, hk, e⟩ := ix_no b hb q
    exact hn k hk (e.trans ht.symm)
  | succ m ih =>
    intro k hk hn
    refine r_iload dJ1_indexOfChar_4cfef_7 rfl ?_
    refine r_iload_n dJ1_indexOfChar_4cfef_9 rfl ?_
    refine r_icmp_ge (tgt := 31) dJ1_indexOfChar_4cfef_10 (by decide) (fun hqz => absurd hqz (nI_ge (b := 8) (by omega) (by decide))) (fun _ => ?_)
    refine r_aload_n dJ1_indexOfChar_4cfef_13 rfl ?_
    refine r_iload dJ1_indexOfChar_4cfef_14 rfl ?_
    refine r_txld dJ1_indexOfChar_4cfef_16 hi (show k < 8 by omega) ?_
    refine r_iload dJ1_indexOfChar_4cfef_17 rfl ?_
    refine r_icmp_ne (tgt := 25) dJ1_indexOfChar_4cfef_19 (by decide) (fun b19 => ?_) (fun b19 => ?_)
    · refine r_iinc (v := (nI (k + 1))) (loc' := [(5, .int (nI (k + 1))), (4, .int t), (0, .ref (1005 + 2)), (1, .int u), (2, .int v), (3, .int (nI (mTl.getD 2 0)))]) dJ1_indexOfChar_4cfef_25 rfl ((nI_succ _).symm) (by decide) rfl ?_
      refine r_goto (tgt := 7) dJ1_indexOfChar_4cfef_28 (by decide) ?_
      refine ih (k + 1) (by omega) (fun q hq => ?_)
      rcases Nat.lt_or_ge q k with y | y
      · exact hn q y
      · rw [show q = k by omega]; exact b19
    · refine r_iload dJ1_indexOfChar_4cfef_22 rfl ?_
      refine r_ireturn dJ1_indexOfChar_4cfef_24 rfl rfl ?_
      exact h1 (ix_yes b hb k (by omega) (by rw [← ht]; exact b19)) k (by omega)
set_option maxRecDepth 100000 in
set_option maxHeartbeats 1000000 in
theorem sp_indexOfChar {b : Nat} (hb : b < 256) (h1 : inS b = true → ∀ k, k < 8 → Ph (some (.int (nI k))) A L) (h0 : ¬ inS b = true → Ph (some (.int (-1))) A L) : qC E mm_J1_indexOfChar_4cfef d [.ref (1005 + 2), .int (nI b), .int 0, .int (nI (mTl.getD 2 0))] A L Ph := by
  refine qC.enter (by decide) (Nat.le_of_ble_eq_true rfl) ?_
  refine r_iload_n dJ1_indexOfChar_4cfef_0 rfl ?_
  refine r_i2b dJ1_indexOfChar_4cfef_1 ?_
  refine r_topi (fun t ht => ?_)
  refine r_istore (loc' := [(4, .int t), (0, .ref (1005 + 2)), (1, .int (nI b)), (2, .int 0), (3, .int (nI (mTl.getD 2 0)))]) dJ1_indexOfChar_4cfef_2 (by decide) rfl ?_
  refine r_iload_n dJ1_indexOfChar_4cfef_4 rfl ?_
  refine r_istore (loc' := [(5, .int 0), (4, .int t), (0, .ref (1005 + 2)), (1, .int (nI b)), (2, .int 0), (3, .int (nI (mTl.getD 2 0)))]) dJ1_indexOfChar_4cfef_5 (by decide) rfl ?_
  exact io_loop hb ht h1 h0 8 0 (by omega) (fun q hq => absurd hq (Nat.not_lt_zero _))
set_option maxRecDepth 100000 in
set_option maxHeartbeats 1000000 in
theorem sp_canEncode {b : Nat} (hb : b < 256) (h : Ph (some (.int 1)) A L) : qC E mm_J1_canEncode_9a6ad d [.int (nI b)] A L Ph := by
  refine qC.enter (by decide) (Nat.le_of_ble_eq_true rfl) ?_
  refine r_iload_n dJ1_canEncode_9a6ad_0 rfl ?_
  refine r_if_lt (tgt := 15) dJ1_canEncode_9a6ad_1 (by decide) (fun hqz => absurd hqz (i_nle (nI_le (a := 0) (Nat.zero_le b) (by omega)))) (fun _ => ?_)
  refine r_iload_n dJ1_canEncode_9a6ad_4 rfl ?_
  refine r_sipush (v := 255) dJ1_canEncode_9a6ad_5 rfl ?_
  refine r_icmp_gt (tgt := 15) dJ1_canEncode_9a6ad_8 (by decide) (fun hqz => absurd hqz (i_nle (nI_le (b := 255) (by omega) (by decide)))) (fun _ => ?_)
  refine r_iconst (v := 1) dJ1_canEncode_9a6ad_11 rfl ?_
  refine r_goto (tgt := 16) dJ1_canEncode_9a6ad_12 (by decide) ?_
  refine r_ireturn dJ1_canEncode_9a6ad_16 rfl (by decide) ?_
  exact h
set_option maxRecDepth 100000 in
set_option maxHeartbeats 1000000 in
theorem sp_J1_indexOf {b : Nat} (hb : b < 256) (h1 : inS b = true → ∀ k, k < 8 → Ph (some (.int (nI k))) A L) (h0 : ¬ inS b = true → Ph (some (.int (-1))) A L) : qC E mm_J1_indexOf_4cfef (d + 1) [.ref (1005 + 2), .int (nI b), .int 0, .int (nI (mTl.getD 2 0))] A L Ph := by
  have hi : 2 < 3 := by decide
  refine qC.enter (by decide) (Nat.le_of_ble_eq_true rfl) ?_
  refine r_iload_n dJ1_indexOf_4cfef_0 rfl ?_
  refine r_callS1 dJ1_indexOf_4cfef_1 lk_J1_88 (Nat.le_of_ble_eq_true rfl) (sp_canEncode hb ?_)
  refine r_if_ne (tgt := 9) dJ1_indexOf_4cfef_4 (by decide) (fun _ => ?_) (fun hqz => absurd hqz (by decide))
  refine r_iload_n dJ1_indexOf_4cfef_9 rfl ?_
  refine r_iconst (v := 0) dJ1_indexOf_4cfef_10 rfl ?_
  refine r_mmax dJ1_indexOf_4cfef_11 lmx_J1_92 (Nat.le_of_ble_eq_true rfl) ?_
  refine r_rw (y := 0) (by decide) ?_
  refine r_istore_n (loc' := [(2, .int 0), (0, .ref (1005 + 2)), (1, .int (nI b)), (3, .int (nI (mTl.getD 2 0)))]) dJ1_indexOf_4cfef_14 (by decide) rfl ?_
  refine r_iload_n dJ1_indexOf_4cfef_15 rfl ?_
  refine r_aload_n dJ1_indexOf_4cfef_16 rfl ?_
  refine r_txlen dJ1_indexOf_4cfef_17 hi ?_
  refine r_mmin dJ1_indexOf_4cfef_18 lmn_J1_38 (Nat.le_of_ble_eq_true rfl) ?_
  refine r_rw (y := nI (mTl.getD 2 0)) (by decide) ?_
  refine r_istore_n (loc' := [(3, .int (nI (mTl.getD 2 0))), (2, .int 0), (0, .ref (1005 + 2)), (1, .int (nI b))]) dJ1_indexOf_4cfef_21 (by decide) rfl ?_
  refine r_iload_n dJ1_indexOf_4cfef_22 rfl ?_
  refine r_iload_n dJ1_indexOf_4cfef_23 rfl ?_
  refine r_icmp_lt (tgt := 29) dJ1_indexOf_4cfef_24 (by decide) (fun _ => ?_) (fun hqz => absurd (by decide) hqz)
  refine r_aload_n dJ1_indexOf_4cfef_29 rfl ?_
  refine r_iload_n dJ1_indexOf_4cfef_30 rfl ?_
  refine r_iload_n dJ1_indexOf_4cfef_31 rfl ?_
  refine r_iload_n dJ1_indexOf_4cfef_32 rfl ?_
  refine r_callS4 dJ1_indexOf_4cfef_33 lk_J1_95 (Nat.le_of_ble_eq_true rfl) (sp_indexOfChar hb (fun q k hk => ?_) (fun q => ?_))
  · refine r_ireturn dJ1_indexOf_4cfef_36 rfl rfl ?_
    exact h1 q k hk
  · refine r_ireturn dJ1_indexOf_4cfef_36 rfl rfl ?_
    exact h0 q
set_option maxRecDepth 100000 in
set_option maxHeartbeats 1000000 in
theorem sp_J0_indexOf2 {b : Nat} (hb : b < 256) (h1 : inS b = true → ∀ k, k < 8 → Ph (some (.int (nI k))) A L) (h0 : ¬ inS b = true → Ph (some (.int (-1))) A L) : qC E mm_J0_indexOf_7cf53 (d + 2) [.ref (1002 + 2), .int (nI b), .int 0] A L Ph := by
  have hi : 2 < 3 := by decide
  refine qC.enter (by decide) (Nat.le_of_ble_eq_true rfl) ?_
  refine r_aload_n dJ0_indexOf_7cf53_0 rfl ?_
  refine r_callX0 dJ0_indexOf_7cf53_1 lk_J0_492 rfl hi (Nat.le_of_ble_eq_true rfl) (sp_J0_isLatin1_aae02 hi ?_)
  refine r_if_eq (tgt := 23) dJ0_indexOf_7cf53_4 (by decide) (fun hqz => absurd hqz (by decide)) (fun _ => ?_)
  refine r_aload_n dJ0_indexOf_7cf53_7 rfl ?_
  refine r_stV dJ0_indexOf_7cf53_8 rfl hi ?_
  refine r_iload_n dJ0_indexOf_7cf53_11 rfl ?_
  refine r_iload_n dJ0_indexOf_7cf53_12 rfl ?_
  refine r_aload_n dJ0_indexOf_7cf53_13 rfl ?_
  refine r_callX0 dJ0_indexOf_7cf53_14 lk_J0_505 rfl hi (Nat.le_of_ble_eq_true rfl) (sp_length hi ?_)
  refine r_callS4 dJ0_indexOf_7cf53_17 lk_J0_637 (Nat.le_of_ble_eq_true rfl) (sp_J1_indexOf hb (fun q k hk => ?_) (fun q => ?_))
  · refine r_goto (tgt := 36) dJ0_indexOf_7cf53_20 (by decide) ?_
    refine r_ireturn dJ0_indexOf_7cf53_36 rfl rfl ?_
    exact h1 q k hk
  · refine r_goto (tgt := 36) dJ0_indexOf_7cf53_20 (by decide) ?_
    refine r_ireturn dJ0_indexOf_7cf53_36 rfl rfl ?_
    exact h0 q
set_option maxRecDepth 100000 in
set_option maxHeartbeats 1000000 in
theorem sp_indexOf {b : Nat} (hb : b < 256) (h1 : inS b = true → ∀ k, k < 8 → Ph (some (.int (nI k))) A L) (h0 : ¬ inS b = true → Ph (some (.int (-1))) A L) : qC E mm_J0_indexOf_0f7a4 (d + 3) [.ref (1002 + 2), .int (nI b)] A L Ph := by
  have hi : 2 < 3 := by decide
  refine qC.enter (by decide) (Nat.le_of_ble_eq_true rfl) ?_
  refine r_aload_n dJ0_indexOf_0f7a4_0 rfl ?_
  refine r_iload_n dJ0_indexOf_0f7a4_1 rfl ?_
  refine r_iconst (v := 0) dJ0_indexOf_0f7a4_2 rfl ?_
  refine r_callX2 dJ0_indexOf_0f7a4_3 lk_J0_633 rfl hi (Nat.le_of_ble_eq_true rfl) (sp_J0_indexOf2 hb (fun q k hk => ?_) (fun q => ?_))
  · refine r_ireturn dJ0_indexOf_0f7a4_6 rfl rfl ?_
    exact h1 q k hk
  · refine r_ireturn dJ0_indexOf_0f7a4_6 rfl rfl ?_
    exact h0 q
end STRS
