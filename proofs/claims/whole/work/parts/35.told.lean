/-! told, stays, drawn, chance, film, say -/
section OPS3
variable {E : mE} {d : Nat} {A S : mA} {L : mJ} {Ph : mP} {T n z p : Nat}
set_option maxRecDepth 100000 in
set_option maxHeartbeats 4000000 in
theorem itm_t12 (hE : hC E) {sz i : Nat} {s : Int32} (hs : s = nI sz) (hsz : sz ≤ 40) (hi : i < sz) (h : Ph (some (.int (A 12 i))) A L) : qC E mm_X6_item (d + 1) [.ref 12, .int s, .int (nI i)] A L Ph := by
  subst hs
  refine qC.enter (by decide) (Nat.le_of_ble_eq_true rfl) ?_
  refine r_iload_n dX6_item_0 rfl ?_
  refine r_iload_n dX6_item_1 rfl ?_
  refine r_callS2 dX6_item_2 lk_X6_100 (Nat.le_of_ble_eq_true rfl) (win_t rfl (by omega) hi ?_)
  refine r_if_eq (tgt := 20) dX6_item_5 (by decide) (fun hqz => absurd hqz (by decide)) (fun _ => ?_)
  refine r_iload_n dX6_item_8 rfl ?_
  refine r_aload_n dX6_item_9 rfl ?_
  refine r_alen (v := 40) dX6_item_10 (ly_12 hE) (by decide) rfl ?_
  refine r_icmp_ge (tgt := 20) dX6_item_11 (by decide) (fun hqz => absurd hqz (nI_ge (show i < 40 by omega) (by decide))) (fun _ => ?_)
  refine r_aload_n dX6_item_14 rfl ?_
  refine r_iload_n dX6_item_15 rfl ?_
  refine r_ialdN dX6_item_16 (ly_12 hE) (by omega) (by decide) ?_
  refine r_goto (tgt := 23) dX6_item_17 (by decide) ?_
  refine r_ireturn dX6_item_23 rfl rfl ?_
  exact h
set_option maxRecDepth 100000 in
set_option maxHeartbeats 4000000 in
theorem itm_f12 (hE : hC E) {sz : Nat} {s of : Int32} (hs : s = nI sz) (hsz : sz ≤ 40) (hv : ∀ i, i < sz → of ≠ nI i) (h : Ph (some (.int (-1000))) A L) : qC E mm_X6_item (d + 1) [.ref 12, .int s, .int of] A L Ph := by
  subst hs
  refine qC.enter (by decide) (Nat.le_of_ble_eq_true rfl) ?_
  refine r_iload_n dX6_item_0 rfl ?_
  refine r_iload_n dX6_item_1 rfl ?_
  refine r_callS2 dX6_item_2 lk_X6_100 (Nat.le_of_ble_eq_true rfl) (win_f sz rfl (by omega) hv ?_)
  refine r_if_eq (tgt := 20) dX6_item_5 (by decide) (fun _ => ?_) (fun hqz => absurd (by decide) hqz)
  refine r_sipush (v := (-1000)) dX6_item_20 rfl ?_
  refine r_ireturn dX6_item_23 rfl rfl ?_
  exact h
set_option maxRecDepth 100000 in
set_option maxHeartbeats 4000000 in
theorem itm_t13 (hE : hC E) {sz i : Nat} {s : Int32} (hs : s = nI sz) (hsz : sz ≤ 5) (hi : i < sz) (h : Ph (some (.int (A 13 i))) A L) : qC E mm_X6_item (d + 1) [.ref 13, .int s, .int (nI i)] A L Ph := by
  subst hs
  refine qC.enter (by decide) (Nat.le_of_ble_eq_true rfl) ?_
  refine r_iload_n dX6_item_0 rfl ?_
  refine r_iload_n dX6_item_1 rfl ?_
  refine r_callS2 dX6_item_2 lk_X6_100 (Nat.le_of_ble_eq_true rfl) (win_t rfl (by omega) hi ?_)
  refine r_if_eq (tgt := 20) dX6_item_5 (by decide) (fun hqz => absurd hqz (by decide)) (fun _ => ?_)
  refine r_iload_n dX6_item_8 rfl ?_
  refine r_aload_n dX6_item_9 rfl ?_
  refine r_alen (v := 5) dX6_item_10 (ly_13 hE) (by decide) rfl ?_
  refine r_icmp_ge (tgt := 20) dX6_item_11 (by decide) (fun hqz => absurd hqz (nI_ge (show i < 5 by omega) (by decide))) (fun _ => ?_)
  refine r_aload_n dX6_item_14 rfl ?_
  refine r_iload_n dX6_item_15 rfl ?_
  refine r_ialdN dX6_item_16 (ly_13 hE) (by omega) (by decide) ?_
  refine r_goto (tgt := 23) dX6_item_17 (by decide) ?_
  refine r_ireturn dX6_item_23 rfl rfl ?_
  exact h
set_option maxRecDepth 100000 in
set_option maxHeartbeats 4000000 in
theorem itm_f13 (hE : hC E) {sz : Nat} {s of : Int32} (hs : s = nI sz) (hsz : sz ≤ 5) (hv : ∀ i, i < sz → of ≠ nI i) (h : Ph (some (.int (-1000))) A L) : qC E mm_X6_item (d + 1) [.ref 13, .int s, .int of] A L Ph := by
  subst hs
  refine qC.enter (by decide) (Nat.le_of_ble_eq_true rfl) ?_
  refine r_iload_n dX6_item_0 rfl ?_
  refine r_iload_n dX6_item_1 rfl ?_
  refine r_callS2 dX6_item_2 lk_X6_100 (Nat.le_of_ble_eq_true rfl) (win_f sz rfl (by omega) hv ?_)
  refine r_if_eq (tgt := 20) dX6_item_5 (by decide) (fun _ => ?_) (fun hqz => absurd (by decide) hqz)
  refine r_sipush (v := (-1000)) dX6_item_20 rfl ?_
  refine r_ireturn dX6_item_23 rfl rfl ?_
  exact h
set_option maxRecDepth 100000 in
set_option maxHeartbeats 4000000 in
theorem itm_t14 (hE : hC E) {sz i : Nat} {s : Int32} (hs : s = nI sz) (hsz : sz ≤ 5) (hi : i < sz) (h : Ph (some (.int (A 14 i))) A L) : qC E mm_X6_item (d + 1) [.ref 14, .int s, .int (nI i)] A L Ph := by
  subst hs
  refine qC.enter (by decide) (Nat.le_of_ble_eq_true rfl) ?_
  refine r_iload_n dX6_item_0 rfl ?_
  refine r_iload_n dX6_item_1 rfl ?_
  refine r_callS2 dX6_item_2 lk_X6_100 (Nat.le_of_ble_eq_true rfl) (win_t rfl (by omega) hi ?_)
  refine r_if_eq (tgt := 20) dX6_item_5 (by decide) (fun hqz => absurd hqz (by decide)) (fun _ => ?_)
  refine r_iload_n dX6_item_8 rfl ?_
  refine r_aload_n dX6_item_9 rfl ?_
  refine r_alen (v := 5) dX6_item_10 (ly_14 hE) (by decide) rfl ?_
  refine r_icmp_ge (tgt := 20) dX6_item_11 (by decide) (fun hqz => absurd hqz (nI_ge (show i < 5 by omega) (by decide))) (fun _ => ?_)
  refine r_aload_n dX6_item_14 rfl ?_
  refine r_iload_n dX6_item_15 rfl ?_
  refine r_ialdN dX6_item_16 (ly_14 hE) (by omega) (by decide) ?_
  refine r_goto (tgt := 23) dX6_item_17 (by decide) ?_
  refine r_ireturn dX6_item_23 rfl rfl ?_
  exact h
set_option maxRecDepth 100000 in
set_option maxHeartbeats 4000000 in
theorem itm_f14 (hE : hC E) {sz : Nat} {s of : Int32} (hs : s = nI sz) (hsz : sz ≤ 5) (hv : ∀ i, i < sz → of ≠ nI i) (h : Ph (some (.int (-1000))) A L) : qC E mm_X6_item (d + 1) [.ref 14, .int s, .int of] A L Ph := by
  subst hs
  refine qC.enter (by decide) (Nat.le_of_ble_eq_true rfl) ?_
  refine r_iload_n dX6_item_0 rfl ?_
  refine r_iload_n dX6_item_1 rfl ?_
  refine r_callS2 dX6_item_2 lk_X6_100 (Nat.le_of_ble_eq_true rfl) (win_f sz rfl (by omega) hv ?_)
  refine r_if_eq (tgt := 20) dX6_item_5 (by decide) (fun _ => ?_) (fun hqz => absurd (by decide) hqz)
  refine r_sipush (v := (-1000)) dX6_item_20 rfl ?_
  refine r_ireturn dX6_item_23 rfl rfl ?_
  exact h
set_option maxRecDepth 100000 in
set_option maxHeartbeats 4000000 in
theorem itm_t15 (hE : hC E) {sz i : Nat} {s : Int32} (hs : s = nI sz) (hsz : sz ≤ 5) (hi : i < sz) (h : Ph (some (.int (A 15 i))) A L) : qC E mm_X6_item (d + 1) [.ref 15, .int s, .int (nI i)] A L Ph := by
  subst hs
  refine qC.enter (by decide) (Nat.le_of_ble_eq_true rfl) ?_
  refine r_iload_n dX6_item_0 rfl ?_
  refine r_iload_n dX6_item_1 rfl ?_
  refine r_callS2 dX6_item_2 lk_X6_100 (Nat.le_of_ble_eq_true rfl) (win_t rfl (by omega) hi ?_)
  refine r_if_eq (tgt := 20) dX6_item_5 (by decide) (fun hqz => absurd hqz (by decide)) (fun _ => ?_)
  refine r_iload_n dX6_item_8 rfl ?_
  refine r_aload_n dX6_item_9 rfl ?_
  refine r_alen (v := 5) dX6_item_10 (ly_15 hE) (by decide) rfl ?_
  refine r_icmp_ge (tgt := 20) dX6_item_11 (by decide) (fun hqz => absurd hqz (nI_ge (show i < 5 by omega) (by decide))) (fun _ => ?_)
  refine r_aload_n dX6_item_14 rfl ?_
  refine r_iload_n dX6_item_15 rfl ?_
  refine r_ialdN dX6_item_16 (ly_15 hE) (by omega) (by decide) ?_
  refine r_goto (tgt := 23) dX6_item_17 (by decide) ?_
  refine r_ireturn dX6_item_23 rfl rfl ?_
  exact h
set_option maxRecDepth 100000 in
set_option maxHeartbeats 4000000 in
theorem itm_f15 (hE : hC E) {sz : Nat} {s of : Int32} (hs : s = nI sz) (hsz : sz ≤ 5) (hv : ∀ i, i < sz → of ≠ nI i) (h : Ph (some (.int (-1000))) A L) : qC E mm_X6_item (d + 1) [.ref 15, .int s, .int of] A L Ph := by
  subst hs
  refine qC.enter (by decide) (Nat.le_of_ble_eq_true rfl) ?_
  refine r_iload_n dX6_item_0 rfl ?_
  refine r_iload_n dX6_item_1 rfl ?_
  refine r_callS2 dX6_item_2 lk_X6_100 (Nat.le_of_ble_eq_true rfl) (win_f sz rfl (by omega) hv ?_)
  refine r_if_eq (tgt := 20) dX6_item_5 (by decide) (fun _ => ?_) (fun hqz => absurd (by decide) hqz)
  refine r_sipush (v := (-1000)) dX6_item_20 rfl ?_
  refine r_ireturn dX6_item_23 rfl rfl ?_
  exact h
set_option maxRecDepth 100000 in
set_option maxHeartbeats 4000000 in
theorem itm_t16 (hE : hC E) {sz i : Nat} {s : Int32} (hs : s = nI sz) (hsz : sz ≤ 5) (hi : i < sz) (h : Ph (some (.int (A 16 i))) A L) : qC E mm_X6_item (d + 1) [.ref 16, .int s, .int (nI i)] A L Ph := by
  subst hs
  refine qC.enter (by decide) (Nat.le_of_ble_eq_true rfl) ?_
  refine r_iload_n dX6_item_0 rfl ?_
  refine r_iload_n dX6_item_1 rfl ?_
  refine r_callS2 dX6_item_2 lk_X6_100 (Nat.le_of_ble_eq_true rfl) (win_t rfl (by omega) hi ?_)
  refine r_if_eq (tgt := 20) dX6_item_5 (by decide) (fun hqz => absurd hqz (by decide)) (fun _ => ?_)
  refine r_iload_n dX6_item_8 rfl ?_
  refine r_aload_n dX6_item_9 rfl ?_
  refine r_alen (v := 5) dX6_item_10 (ly_16 hE) (by decide) rfl ?_
  refine r_icmp_ge (tgt := 20) dX6_item_11 (by decide) (fun hqz => absurd hqz (nI_ge (show i < 5 by omega) (by decide))) (fun _ => ?_)
  refine r_aload_n dX6_item_14 rfl ?_
  refine r_iload_n dX6_item_15 rfl ?_
  refine r_ialdN dX6_item_16 (ly_16 hE) (by omega) (by decide) ?_
  refine r_goto (tgt := 23) dX6_item_17 (by decide) ?_
  refine r_ireturn dX6_item_23 rfl rfl ?_
  exact h
set_option maxRecDepth 100000 in
set_option maxHeartbeats 4000000 in
theorem itm_f16 (hE : hC E) {sz : Nat} {s of : Int32} (hs : s = nI sz) (hsz : sz ≤ 5) (hv : ∀ i, i < sz → of ≠ nI i) (h : Ph (some (.int (-1000))) A L) : qC E mm_X6_item (d + 1) [.ref 16, .int s, .int of] A L Ph := by
  subst hs
  refine qC.enter (by decide) (Nat.le_of_ble_eq_true rfl) ?_
  refine r_iload_n dX6_item_0 rfl ?_
  refine r_iload_n dX6_item_1 rfl ?_
  refine r_callS2 dX6_item_2 lk_X6_100 (Nat.le_of_ble_eq_true rfl) (win_f sz rfl (by omega) hv ?_)
  refine r_if_eq (tgt := 20) dX6_item_5 (by decide) (fun _ => ?_) (fun hqz => absurd (by decide) hqz)
  refine r_sipush (v := (-1000)) dX6_item_20 rfl ?_
  refine r_ireturn dX6_item_23 rfl rfl ?_
  exact h
set_option maxRecDepth 100000 in
set_option maxHeartbeats 4000000 in
theorem felt_f (hE : hC E) {of what : Int32} (hn : n ≤ 5) (h5 : A 1 5 = nI n) (hv : ∀ i, i < n → of ≠ nI i) (h : Ph (some (.int (-1000))) A L) : qC E mm_X6_felt (d + 2) [.ref 0, .int of, .int what] A L Ph := by
  refine qC.enter (by decide) (Nat.le_of_ble_eq_true rfl) ?_
  refine r_aload_n dX6_felt_0 rfl ?_
  refine r_getR dX6_felt_1 fl_X6_10 (ly_0 hE) rfl ?_
  refine r_iload_n dX6_felt_4 rfl ?_
  refine r_callV1 dX6_felt_5 lk_X6_125 (ly_1 hE) rfl (Nat.le_of_ble_eq_true rfl) (has_f hE hn h5 hv ?_)
  refine r_if_ne (tgt := 15) dX6_felt_8 (by decide) (fun hqz => absurd (by decide) hqz) (fun _ => ?_)
  refine r_sipush (v := (-1000)) dX6_felt_11 rfl ?_
  refine r_ireturn dX6_felt_14 rfl rfl ?_
  exact h
set_option maxRecDepth 100000 in
set_option maxHeartbeats 4000000 in
theorem felt_6 (hE : hC E) (hW : WfS S T n z) (hR : RC A S T n z) (hp : p < n) (h : ∀ A', RC A' S T n z → (∀ k, 38 ≤ k → A' k = A k) → Ph (some (.int (coolF S (rF S) (kdP S p) (nrP S p) (anP S p)))) A' L) : qC E mm_X6_felt (d + 3) [.ref 0, .int (nI p), .int 6] A L Ph := by
  refine qC.enter (by decide) (Nat.le_of_ble_eq_true rfl) ?_
  refine r_aload_n dX6_felt_0 rfl ?_
  refine r_getR dX6_felt_1 fl_X6_10 (ly_0 hE) rfl ?_
  refine r_iload_n dX6_felt_4 rfl ?_
  refine r_callV1 dX6_felt_5 lk_X6_125 (ly_1 hE) rfl (Nat.le_of_ble_eq_true rfl) (has_t hE hW.2.2.2.2.1.1 (hR.1.2.2.1.trans hW.2.2.2.2.1.2.1) hp ?_)
  refine r_if_ne (tgt := 15) dX6_felt_8 (by decide) (fun _ => ?_) (fun hqz => absurd hqz (by decide))
  refine r_aload_n dX6_felt_15 rfl ?_
  refine r_getR dX6_felt_16 fl_X6_38 (ly_0 hE) rfl ?_
  refine r_aload_n dX6_felt_19 rfl ?_
  refine r_getR dX6_felt_20 fl_X6_10 (ly_0 hE) rfl ?_
  refine r_iload_n dX6_felt_23 rfl ?_
  refine r_callV2 dX6_felt_24 lk_X6_128 (ly_5 hE) rfl (Nat.le_of_ble_eq_true rfl) (co_of hE hW hR hp (fun A1 f1 hc hR1 => ?_))
  refine r_aload_n dX6_felt_27 rfl ?_
  refine r_getR dX6_felt_28 fl_X6_10 (ly_0 hE) rfl ?_
  refine r_iload_n dX6_felt_31 rfl ?_
  refine r_callV1 dX6_felt_32 lk_X6_132 (ly_1 hE) rfl (Nat.le_of_ble_eq_true rfl) (co_an hE hW hR1 hp ?_)
  refine r_topi (fun v35 e35 => ?_)
  refine r_istore_n (loc' := [(3, .int v35), (0, .ref 0), (1, .int (nI p)), (2, .int 6)]) dX6_felt_35 (by decide) rfl ?_
  refine r_iload_n dX6_felt_36 rfl ?_
  refine r_bipush (v := 6) dX6_felt_37 rfl ?_
  refine r_icmp_ne (tgt := 51) dX6_felt_39 (by decide) (fun hqz => absurd (by decide) hqz) (fun _ => ?_)
  refine r_aload_n dX6_felt_42 rfl ?_
  refine r_getR dX6_felt_43 fl_X6_38 (ly_0 hE) rfl ?_
  refine r_iload_n dX6_felt_46 rfl ?_
  refine r_callV1 dX6_felt_47 lk_X6_135 (ly_5 hE) rfl (Nat.le_of_ble_eq_true rfl) (sp_X4_cools hc (fun A2 f2 => ?_))
  refine r_ireturn dX6_felt_50 rfl rfl ?_
  subst e35
  exact h A2 (hR1.fr f2.c) (fun k hk => ((f2.c k (by simp; omega)).trans (f1 k (by simp; omega))))
set_option maxRecDepth 100000 in
set_option maxHeartbeats 4000000 in
theorem felt_7 (hE : hC E) (hW : WfS S T n z) (hR : RC A S T n z) (hp : p < n) (h : ∀ A', RC A' S T n z → (∀ k, 38 ≤ k → A' k = A k) → Ph (some (.int (farF S (rF S) (kdP S p) (nrP S p) (anP S p)))) A' L) : qC E mm_X6_felt (d + 3) [.ref 0, .int (nI p), .int 7] A L Ph := by
  refine qC.enter (by decide) (Nat.le_of_ble_eq_true rfl) ?_
  refine r_aload_n dX6_felt_0 rfl ?_
  refine r_getR dX6_felt_1 fl_X6_10 (ly_0 hE) rfl ?_
  refine r_iload_n dX6_felt_4 rfl ?_
  refine r_callV1 dX6_felt_5 lk_X6_125 (ly_1 hE) rfl (Nat.le_of_ble_eq_true rfl) (has_t hE hW.2.2.2.2.1.1 (hR.1.2.2.1.trans hW.2.2.2.2.1.2.1) hp ?_)
  refine r_if_ne (tgt := 15) dX6_felt_8 (by decide) (fun _ => ?_) (fun hqz => absurd hqz (by decide))
  refine r_aload_n dX6_felt_15 rfl ?_
  refine r_getR dX6_felt_16 fl_X6_38 (ly_0 hE) rfl ?_
  refine r_aload_n dX6_felt_19 rfl ?_
  refine r_getR dX6_felt_20 fl_X6_10 (ly_0 hE) rfl ?_
  refine r_iload_n dX6_felt_23 rfl ?_
  refine r_callV2 dX6_felt_24 lk_X6_128 (ly_5 hE) rfl (Nat.le_of_ble_eq_true rfl) (co_of hE hW hR hp (fun A1 f1 hc hR1 => ?_))
  refine r_aload_n dX6_felt_27 rfl ?_
  refine r_getR dX6_felt_28 fl_X6_10 (ly_0 hE) rfl ?_
  refine r_iload_n dX6_felt_31 rfl ?_
  refine r_callV1 dX6_felt_32 lk_X6_132 (ly_1 hE) rfl (Nat.le_of_ble_eq_true rfl) (co_an hE hW hR1 hp ?_)
  refine r_topi (fun v35 e35 => ?_)
  refine r_istore_n (loc' := [(3, .int v35), (0, .ref 0), (1, .int (nI p)), (2, .int 7)]) dX6_felt_35 (by decide) rfl ?_
  refine r_iload_n dX6_felt_36 rfl ?_
  refine r_bipush (v := 6) dX6_felt_37 rfl ?_
  refine r_icmp_ne (tgt := 51) dX6_felt_39 (by decide) (fun _ => ?_) (fun hqz => absurd hqz (by decide))
  refine r_iload_n dX6_felt_51 rfl ?_
  refine r_bipush (v := 7) dX6_felt_52 rfl ?_
  refine r_icmp_ne (tgt := 66) dX6_felt_54 (by decide) (fun hqz => absurd (by decide) hqz) (fun _ => ?_)
  refine r_aload_n dX6_felt_57 rfl ?_
  refine r_getR dX6_felt_58 fl_X6_38 (ly_0 hE) rfl ?_
  refine r_iload_n dX6_felt_61 rfl ?_
  refine r_callV1 dX6_felt_62 lk_X6_138 (ly_5 hE) rfl (Nat.le_of_ble_eq_true rfl) (sp_X4_far hc (fun A2 f2 => ?_))
  refine r_ireturn dX6_felt_65 rfl rfl ?_
  subst e35
  exact h A2 (hR1.fr f2.c) (fun k hk => ((f2.c k (by simp; omega)).trans (f1 k (by simp; omega))))
set_option maxRecDepth 100000 in
set_option maxHeartbeats 4000000 in
theorem felt_h (hE : hC E) (hW : WfS S T n z) (hR : RC A S T n z) (hp : p < n) {w : Nat} (hw : w < 6) (h : ∀ A', RC A' S T n z → (∀ k, 38 ≤ k → A' k = A k) → Ph (some (.int (heatF S (rF S) (kdP S p) (nrP S p) (anP S p) (nI w)))) A' L) : qC E mm_X6_felt (d + 3) [.ref 0, .int (nI p), .int (nI (10 + w))] A L Ph := by
  refine qC.enter (by decide) (Nat.le_of_ble_eq_true rfl) ?_
  refine r_aload_n dX6_felt_0 rfl ?_
  refine r_getR dX6_felt_1 fl_X6_10 (ly_0 hE) rfl ?_
  refine r_iload_n dX6_felt_4 rfl ?_
  refine r_callV1 dX6_felt_5 lk_X6_125 (ly_1 hE) rfl (Nat.le_of_ble_eq_true rfl) (has_t hE hW.2.2.2.2.1.1 (hR.1.2.2.1.trans hW.2.2.2.2.1.2.1) hp ?_)
  refine r_if_ne (tgt := 15) dX6_felt_8 (by decide) (fun _ => ?_) (fun hqz => absurd hqz (by decide))
  refine r_aload_n dX6_felt_15 rfl ?_
  refine r_getR dX6_felt_16 fl_X6_38 (ly_0 hE) rfl ?_
  refine r_aload_n dX6_felt_19 rfl ?_
  refine r_getR dX6_felt_20 fl_X6_10 (ly_0 hE) rfl ?_
  refine r_iload_n dX6_felt_23 rfl ?_
  refine r_callV2 dX6_felt_24 lk_X6_128 (ly_5 hE) rfl (Nat.le_of_ble_eq_true rfl) (co_of hE hW hR hp (fun A1 f1 hc hR1 => ?_))
  refine r_aload_n dX6_felt_27 rfl ?_
  refine r_getR dX6_felt_28 fl_X6_10 (ly_0 hE) rfl ?_
  refine r_iload_n dX6_felt_31 rfl ?_
  refine r_callV1 dX6_felt_32 lk_X6_132 (ly_1 hE) rfl (Nat.le_of_ble_eq_true rfl) (co_an hE hW hR1 hp ?_)
  refine r_topi (fun v35 e35 => ?_)
  refine r_istore_n (loc' := [(3, .int v35), (0, .ref 0), (1, .int (nI p)), (2, .int (nI (10 + w)))]) dX6_felt_35 (by decide) rfl ?_
  refine r_iload_n dX6_felt_36 rfl ?_
  refine r_bipush (v := 6) dX6_felt_37 rfl ?_
  refine r_icmp_ne (tgt := 51) dX6_felt_39 (by decide) (fun _ => ?_) (fun hqz => absurd hqz (fun z => by have := (nI_eq (by omega) (by decide)).mp (show nI (10 + w) = nI 6 from z); omega))
  refine r_iload_n dX6_felt_51 rfl ?_
  refine r_bipush (v := 7) dX6_felt_52 rfl ?_
  refine r_icmp_ne (tgt := 66) dX6_felt_54 (by decide) (fun _ => ?_) (fun hqz => absurd hqz (fun z => by have := (nI_eq (by omega) (by decide)).mp (show nI (10 + w) = nI 7 from z); omega))
  refine r_iload_n dX6_felt_66 rfl ?_
  refine r_bipush (v := 10) dX6_felt_67 rfl ?_
  refine r_icmp_lt (tgt := 93) dX6_felt_69 (by decide) (fun hqz => absurd hqz (nI_nlt (show 10 ≤ 10 + w by omega) (by omega))) (fun _ => ?_)
  refine r_iload_n dX6_felt_72 rfl ?_
  refine r_bipush (v := 16) dX6_felt_73 rfl ?_
  refine r_icmp_ge (tgt := 93) dX6_felt_75 (by decide) (fun hqz => absurd hqz (nI_ge (show 10 + w < 16 by omega) (by decide))) (fun _ => ?_)
  refine r_aload_n dX6_felt_78 rfl ?_
  refine r_getR dX6_felt_79 fl_X6_38 (ly_0 hE) rfl ?_
  refine r_iload_n dX6_felt_82 rfl ?_
  refine r_iload_n dX6_felt_83 rfl ?_
  refine r_bipush (v := 10) dX6_felt_84 rfl ?_
  refine r_isub dX6_felt_86 ?_
  refine r_rw (y := nI w) (show nI (10 + w) - nI 10 = _ by rw [pk_sub (by omega)]; congr 1; omega) ?_
  refine r_callV2 dX6_felt_87 lk_X6_141 (ly_5 hE) rfl (Nat.le_of_ble_eq_true rfl) (sp_X4_heats hc (fun A2 f2 => ?_))
  refine r_goto (tgt := 96) dX6_felt_90 (by decide) ?_
  refine r_ireturn dX6_felt_96 rfl rfl ?_
  subst e35
  exact h A2 (hR1.fr f2.c) (fun k hk => ((f2.c k (by simp; omega)).trans (f1 k (by simp; omega))))
set_option maxRecDepth 100000 in
set_option maxHeartbeats 4000000 in
theorem felt_o (hE : hC E) (hW : WfS S T n z) (hR : RC A S T n z) (hp : p < n) {x : Int32} (h6 : ¬ x = 6) (h7 : ¬ x = 7) (hx : x < 10 ∨ 16 ≤ x) (h : ∀ A', RC A' S T n z → (∀ k, 38 ≤ k → A' k = A k) → Ph (some (.int (-1000))) A' L) : qC E mm_X6_felt (d + 3) [.ref 0, .int (nI p), .int x] A L Ph := by
  refine qC.enter (by decide) (Nat.le_of_ble_eq_true rfl) ?_
  refine r_aload_n dX6_felt_0 rfl ?_
  refine r_getR dX6_felt_1 fl_X6_10 (ly_0 hE) rfl ?_
  refine r_iload_n dX6_felt_4 rfl ?_
  refine r_callV1 dX6_felt_5 lk_X6_125 (ly_1 hE) rfl (Nat.le_of_ble_eq_true rfl) (has_t hE hW.2.2.2.2.1.1 (hR.1.2.2.1.trans hW.2.2.2.2.1.2.1) hp ?_)
  refine r_if_ne (tgt := 15) dX6_felt_8 (by decide) (fun _ => ?_) (fun hqz => absurd hqz (by decide))
  refine r_aload_n dX6_felt_15 rfl ?_
  refine r_getR dX6_felt_16 fl_X6_38 (ly_0 hE) rfl ?_
  refine r_aload_n dX6_felt_19 rfl ?_
  refine r_getR dX6_felt_20 fl_X6_10 (ly_0 hE) rfl ?_
  refine r_iload_n dX6_felt_23 rfl ?_
  refine r_callV2 dX6_felt_24 lk_X6_128 (ly_5 hE) rfl (Nat.le_of_ble_eq_true rfl) (co_of hE hW hR hp (fun A1 f1 hc hR1 => ?_))
  refine r_aload_n dX6_felt_27 rfl ?_
  refine r_getR dX6_felt_28 fl_X6_10 (ly_0 hE) rfl ?_
  refine r_iload_n dX6_felt_31 rfl ?_
  refine r_callV1 dX6_felt_32 lk_X6_132 (ly_1 hE) rfl (Nat.le_of_ble_eq_true rfl) (co_an hE hW hR1 hp ?_)
  refine r_topi (fun v35 e35 => ?_)
  refine r_istore_n (loc' := [(3, .int v35), (0, .ref 0), (1, .int (nI p)), (2, .int x)]) dX6_felt_35 (by decide) rfl ?_
  refine r_iload_n dX6_felt_36 rfl ?_
  refine r_bipush (v := 6) dX6_felt_37 rfl ?_
  refine r_icmp_ne (tgt := 51) dX6_felt_39 (by decide) (fun _ => ?_) (fun hqz => absurd hqz h6)
  refine r_iload_n dX6_felt_51 rfl ?_
  refine r_bipush (v := 7) dX6_felt_52 rfl ?_
  refine r_icmp_ne (tgt := 66) dX6_felt_54 (by decide) (fun _ => ?_) (fun hqz => absurd hqz h7)
  refine r_iload_n dX6_felt_66 rfl ?_
  refine r_bipush (v := 10) dX6_felt_67 rfl ?_
  refine r_icmp_lt (tgt := 93) dX6_felt_69 (by decide) (fun b69 => ?_) (fun b69 => ?_)
  · refine r_sipush (v := (-1000)) dX6_felt_93 rfl ?_
    refine r_ireturn dX6_felt_96 rfl rfl ?_
    exact h A1 hR1 (fun k hk => f1 k (by simp; omega))
  · refine r_iload_n dX6_felt_72 rfl ?_
    refine r_bipush (v := 16) dX6_felt_73 rfl ?_
    refine r_icmp_ge (tgt := 93) dX6_felt_75 (by decide) (fun _ => ?_) (fun hqz => absurd (hx.resolve_left b69) hqz)
    refine r_sipush (v := (-1000)) dX6_felt_93 rfl ?_
    refine r_ireturn dX6_felt_96 rfl rfl ?_
    exact h A1 hR1 (fun k hk => f1 k (by simp; omega))
end OPS3
