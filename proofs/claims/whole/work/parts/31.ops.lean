/-! set, pair, told, feed, force -/
section OPS1
variable {E : mE} {d : Nat} {A S : mA} {L : mJ} {Ph : mP} {T n z : Nat}
set_option maxRecDepth 100000 in
set_option maxHeartbeats 4000000 in
theorem chg_t12 (hE : hC E) {sz i lim t : Nat} {s u : Int32} (hs : s = nI sz) (hsz : sz ≤ 40) (hi : i < sz) (hu : u = nI lim) (hl : lim < 2 ^ 31) (ht : t < lim) (h : Ph (some (.int (A 12 i))) (s2 A 12 i (nI t)) L) : qC E mm_X6_change (d + 1) [.ref 12, .int s, .int (nI i), .int (nI t), .int u] A L Ph := by
  subst hs; subst hu
  refine qC.enter (by decide) (Nat.le_of_ble_eq_true rfl) ?_
  refine r_iload_n dX6_change_0 rfl ?_
  refine r_iload_n dX6_change_1 rfl ?_
  refine r_callS2 dX6_change_2 lk_X6_100 (Nat.le_of_ble_eq_true rfl) (win_t rfl (by omega) hi ?_)
  refine r_if_eq (tgt := 23) dX6_change_5 (by decide) (fun hqz => absurd hqz (by decide)) (fun _ => ?_)
  refine r_iload_n dX6_change_8 rfl ?_
  refine r_aload_n dX6_change_9 rfl ?_
  refine r_alen (v := 40) dX6_change_10 (ly_12 hE) (by decide) rfl ?_
  refine r_icmp_ge (tgt := 23) dX6_change_11 (by decide) (fun hqz => absurd hqz (nI_ge (show i < 40 by omega) (by decide))) (fun _ => ?_)
  refine r_iload_n dX6_change_14 rfl ?_
  refine r_iload dX6_change_15 rfl ?_
  refine r_callS2 dX6_change_17 lk_X6_100 (Nat.le_of_ble_eq_true rfl) (win_t rfl hl ht ?_)
  refine r_if_ne (tgt := 26) dX6_change_20 (by decide) (fun _ => ?_) (fun hqz => absurd hqz (by decide))
  refine r_aload_n dX6_change_26 rfl ?_
  refine r_iload_n dX6_change_27 rfl ?_
  refine r_ialdN dX6_change_28 (ly_12 hE) (by omega) (by decide) ?_
  refine r_topi (fun v29 e29 => ?_)
  refine r_istore (loc' := [(5, .int v29), (0, .ref 12), (1, .int (nI sz)), (2, .int (nI i)), (3, .int (nI t)), (4, .int (nI lim))]) dX6_change_29 (by decide) rfl ?_
  refine r_aload_n dX6_change_31 rfl ?_
  refine r_iload_n dX6_change_32 rfl ?_
  refine r_iload_n dX6_change_33 rfl ?_
  refine r_iastN dX6_change_34 (ly_12 hE) (by omega) (by decide) ?_
  refine r_iload dX6_change_35 rfl ?_
  refine r_ireturn dX6_change_37 rfl rfl ?_
  subst e29
  exact h
set_option maxRecDepth 100000 in
set_option maxHeartbeats 4000000 in
theorem chg_f12 (hE : hC E) {sz lim : Nat} {s u of v : Int32} (hs : s = nI sz) (hsz : sz ≤ 40) (hu : u = nI lim) (hl : lim < 2 ^ 31) (hv : (∀ i, i < sz → of ≠ nI i) ∨ ∀ t, t < lim → v ≠ nI t) (h : Ph (some (.int (-2))) A L) : qC E mm_X6_change (d + 1) [.ref 12, .int s, .int of, .int v, .int u] A L Ph := by
  subst hs; subst hu
  refine qC.enter (by decide) (Nat.le_of_ble_eq_true rfl) ?_
  refine r_iload_n dX6_change_0 rfl ?_
  refine r_iload_n dX6_change_1 rfl ?_
  refine r_callS2 dX6_change_2 lk_X6_100 (Nat.le_of_ble_eq_true rfl) (sp_X6_within sz rfl (by omega) (fun i hi ei => ?_) (fun _ => ?_))
  · subst ei
    refine r_if_eq (tgt := 23) dX6_change_5 (by decide) (fun hqz => absurd hqz (by decide)) (fun _ => ?_)
    refine r_iload_n dX6_change_8 rfl ?_
    refine r_aload_n dX6_change_9 rfl ?_
    refine r_alen (v := 40) dX6_change_10 (ly_12 hE) (by decide) rfl ?_
    refine r_icmp_ge (tgt := 23) dX6_change_11 (by decide) (fun hqz => absurd hqz (nI_ge (show i < 40 by omega) (by decide))) (fun _ => ?_)
    refine r_iload_n dX6_change_14 rfl ?_
    refine r_iload dX6_change_15 rfl ?_
    refine r_callS2 dX6_change_17 lk_X6_100 (Nat.le_of_ble_eq_true rfl) (win_f lim rfl hl (hv.resolve_left (fun z => absurd rfl (z i hi))) ?_)
    refine r_if_ne (tgt := 26) dX6_change_20 (by decide) (fun hqz => absurd (by decide) hqz) (fun _ => ?_)
    refine r_bipush (v := (-2)) dX6_change_23 rfl ?_
    refine r_ireturn dX6_change_25 rfl rfl ?_
    exact h
  · refine r_if_eq (tgt := 23) dX6_change_5 (by decide) (fun _ => ?_) (fun hqz => absurd (by decide) hqz)
    refine r_bipush (v := (-2)) dX6_change_23 rfl ?_
    refine r_ireturn dX6_change_25 rfl rfl ?_
    exact h
set_option maxRecDepth 100000 in
set_option maxHeartbeats 4000000 in
theorem chg_t14 (hE : hC E) {sz i lim t : Nat} {s u : Int32} (hs : s = nI sz) (hsz : sz ≤ 5) (hi : i < sz) (hu : u = nI lim) (hl : lim < 2 ^ 31) (ht : t < lim) (h : Ph (some (.int (A 14 i))) (s2 A 14 i (nI t)) L) : qC E mm_X6_change (d + 1) [.ref 14, .int s, .int (nI i), .int (nI t), .int u] A L Ph := by
  subst hs; subst hu
  refine qC.enter (by decide) (Nat.le_of_ble_eq_true rfl) ?_
  refine r_iload_n dX6_change_0 rfl ?_
  refine r_iload_n dX6_change_1 rfl ?_
  refine r_callS2 dX6_change_2 lk_X6_100 (Nat.le_of_ble_eq_true rfl) (win_t rfl (by omega) hi ?_)
  refine r_if_eq (tgt := 23) dX6_change_5 (by decide) (fun hqz => absurd hqz (by decide)) (fun _ => ?_)
  refine r_iload_n dX6_change_8 rfl ?_
  refine r_aload_n dX6_change_9 rfl ?_
  refine r_alen (v := 5) dX6_change_10 (ly_14 hE) (by decide) rfl ?_
  refine r_icmp_ge (tgt := 23) dX6_change_11 (by decide) (fun hqz => absurd hqz (nI_ge (show i < 5 by omega) (by decide))) (fun _ => ?_)
  refine r_iload_n dX6_change_14 rfl ?_
  refine r_iload dX6_change_15 rfl ?_
  refine r_callS2 dX6_change_17 lk_X6_100 (Nat.le_of_ble_eq_true rfl) (win_t rfl hl ht ?_)
  refine r_if_ne (tgt := 26) dX6_change_20 (by decide) (fun _ => ?_) (fun hqz => absurd hqz (by decide))
  refine r_aload_n dX6_change_26 rfl ?_
  refine r_iload_n dX6_change_27 rfl ?_
  refine r_ialdN dX6_change_28 (ly_14 hE) (by omega) (by decide) ?_
  refine r_topi (fun v29 e29 => ?_)
  refine r_istore (loc' := [(5, .int v29), (0, .ref 14), (1, .int (nI sz)), (2, .int (nI i)), (3, .int (nI t)), (4, .int (nI lim))]) dX6_change_29 (by decide) rfl ?_
  refine r_aload_n dX6_change_31 rfl ?_
  refine r_iload_n dX6_change_32 rfl ?_
  refine r_iload_n dX6_change_33 rfl ?_
  refine r_iastN dX6_change_34 (ly_14 hE) (by omega) (by decide) ?_
  refine r_iload dX6_change_35 rfl ?_
  refine r_ireturn dX6_change_37 rfl rfl ?_
  subst e29
  exact h
set_option maxRecDepth 100000 in
set_option maxHeartbeats 4000000 in
theorem chg_f14 (hE : hC E) {sz lim : Nat} {s u of v : Int32} (hs : s = nI sz) (hsz : sz ≤ 5) (hu : u = nI lim) (hl : lim < 2 ^ 31) (hv : (∀ i, i < sz → of ≠ nI i) ∨ ∀ t, t < lim → v ≠ nI t) (h : Ph (some (.int (-2))) A L) : qC E mm_X6_change (d + 1) [.ref 14, .int s, .int of, .int v, .int u] A L Ph := by
  subst hs; subst hu
  refine qC.enter (by decide) (Nat.le_of_ble_eq_true rfl) ?_
  refine r_iload_n dX6_change_0 rfl ?_
  refine r_iload_n dX6_change_1 rfl ?_
  refine r_callS2 dX6_change_2 lk_X6_100 (Nat.le_of_ble_eq_true rfl) (sp_X6_within sz rfl (by omega) (fun i hi ei => ?_) (fun _ => ?_))
  · subst ei
    refine r_if_eq (tgt := 23) dX6_change_5 (by decide) (fun hqz => absurd hqz (by decide)) (fun _ => ?_)
    refine r_iload_n dX6_change_8 rfl ?_
    refine r_aload_n dX6_change_9 rfl ?_
    refine r_alen (v := 5) dX6_change_10 (ly_14 hE) (by decide) rfl ?_
    refine r_icmp_ge (tgt := 23) dX6_change_11 (by decide) (fun hqz => absurd hqz (nI_ge (show i < 5 by omega) (by decide))) (fun _ => ?_)
    refine r_iload_n dX6_change_14 rfl ?_
    refine r_iload dX6_change_15 rfl ?_
    refine r_callS2 dX6_change_17 lk_X6_100 (Nat.le_of_ble_eq_true rfl) (win_f lim rfl hl (hv.resolve_left (fun z => absurd rfl (z i hi))) ?_)
    refine r_if_ne (tgt := 26) dX6_change_20 (by decide) (fun hqz => absurd (by decide) hqz) (fun _ => ?_)
    refine r_bipush (v := (-2)) dX6_change_23 rfl ?_
    refine r_ireturn dX6_change_25 rfl rfl ?_
    exact h
  · refine r_if_eq (tgt := 23) dX6_change_5 (by decide) (fun _ => ?_) (fun hqz => absurd (by decide) hqz)
    refine r_bipush (v := (-2)) dX6_change_23 rfl ?_
    refine r_ireturn dX6_change_25 rfl rfl ?_
    exact h
set_option maxRecDepth 100000 in
set_option maxHeartbeats 4000000 in
theorem chg_t15 (hE : hC E) {sz i lim t : Nat} {s u : Int32} (hs : s = nI sz) (hsz : sz ≤ 5) (hi : i < sz) (hu : u = nI lim) (hl : lim < 2 ^ 31) (ht : t < lim) (h : Ph (some (.int (A 15 i))) (s2 A 15 i (nI t)) L) : qC E mm_X6_change (d + 1) [.ref 15, .int s, .int (nI i), .int (nI t), .int u] A L Ph := by
  subst hs; subst hu
  refine qC.enter (by decide) (Nat.le_of_ble_eq_true rfl) ?_
  refine r_iload_n dX6_change_0 rfl ?_
  refine r_iload_n dX6_change_1 rfl ?_
  refine r_callS2 dX6_change_2 lk_X6_100 (Nat.le_of_ble_eq_true rfl) (win_t rfl (by omega) hi ?_)
  refine r_if_eq (tgt := 23) dX6_change_5 (by decide) (fun hqz => absurd hqz (by decide)) (fun _ => ?_)
  refine r_iload_n dX6_change_8 rfl ?_
  refine r_aload_n dX6_change_9 rfl ?_
  refine r_alen (v := 5) dX6_change_10 (ly_15 hE) (by decide) rfl ?_
  refine r_icmp_ge (tgt := 23) dX6_change_11 (by decide) (fun hqz => absurd hqz (nI_ge (show i < 5 by omega) (by decide))) (fun _ => ?_)
  refine r_iload_n dX6_change_14 rfl ?_
  refine r_iload dX6_change_15 rfl ?_
  refine r_callS2 dX6_change_17 lk_X6_100 (Nat.le_of_ble_eq_true rfl) (win_t rfl hl ht ?_)
  refine r_if_ne (tgt := 26) dX6_change_20 (by decide) (fun _ => ?_) (fun hqz => absurd hqz (by decide))
  refine r_aload_n dX6_change_26 rfl ?_
  refine r_iload_n dX6_change_27 rfl ?_
  refine r_ialdN dX6_change_28 (ly_15 hE) (by omega) (by decide) ?_
  refine r_topi (fun v29 e29 => ?_)
  refine r_istore (loc' := [(5, .int v29), (0, .ref 15), (1, .int (nI sz)), (2, .int (nI i)), (3, .int (nI t)), (4, .int (nI lim))]) dX6_change_29 (by decide) rfl ?_
  refine r_aload_n dX6_change_31 rfl ?_
  refine r_iload_n dX6_change_32 rfl ?_
  refine r_iload_n dX6_change_33 rfl ?_
  refine r_iastN dX6_change_34 (ly_15 hE) (by omega) (by decide) ?_
  refine r_iload dX6_change_35 rfl ?_
  refine r_ireturn dX6_change_37 rfl rfl ?_
  subst e29
  exact h
set_option maxRecDepth 100000 in
set_option maxHeartbeats 4000000 in
theorem chg_f15 (hE : hC E) {sz lim : Nat} {s u of v : Int32} (hs : s = nI sz) (hsz : sz ≤ 5) (hu : u = nI lim) (hl : lim < 2 ^ 31) (hv : (∀ i, i < sz → of ≠ nI i) ∨ ∀ t, t < lim → v ≠ nI t) (h : Ph (some (.int (-2))) A L) : qC E mm_X6_change (d + 1) [.ref 15, .int s, .int of, .int v, .int u] A L Ph := by
  subst hs; subst hu
  refine qC.enter (by decide) (Nat.le_of_ble_eq_true rfl) ?_
  refine r_iload_n dX6_change_0 rfl ?_
  refine r_iload_n dX6_change_1 rfl ?_
  refine r_callS2 dX6_change_2 lk_X6_100 (Nat.le_of_ble_eq_true rfl) (sp_X6_within sz rfl (by omega) (fun i hi ei => ?_) (fun _ => ?_))
  · subst ei
    refine r_if_eq (tgt := 23) dX6_change_5 (by decide) (fun hqz => absurd hqz (by decide)) (fun _ => ?_)
    refine r_iload_n dX6_change_8 rfl ?_
    refine r_aload_n dX6_change_9 rfl ?_
    refine r_alen (v := 5) dX6_change_10 (ly_15 hE) (by decide) rfl ?_
    refine r_icmp_ge (tgt := 23) dX6_change_11 (by decide) (fun hqz => absurd hqz (nI_ge (show i < 5 by omega) (by decide))) (fun _ => ?_)
    refine r_iload_n dX6_change_14 rfl ?_
    refine r_iload dX6_change_15 rfl ?_
    refine r_callS2 dX6_change_17 lk_X6_100 (Nat.le_of_ble_eq_true rfl) (win_f lim rfl hl (hv.resolve_left (fun z => absurd rfl (z i hi))) ?_)
    refine r_if_ne (tgt := 26) dX6_change_20 (by decide) (fun hqz => absurd (by decide) hqz) (fun _ => ?_)
    refine r_bipush (v := (-2)) dX6_change_23 rfl ?_
    refine r_ireturn dX6_change_25 rfl rfl ?_
    exact h
  · refine r_if_eq (tgt := 23) dX6_change_5 (by decide) (fun _ => ?_) (fun hqz => absurd (by decide) hqz)
    refine r_bipush (v := (-2)) dX6_change_23 rfl ?_
    refine r_ireturn dX6_change_25 rfl rfl ?_
    exact h
theorem sp_X7_most {x u : Int32} (hx : (x = 0 ∧ u = 99) ∨ (x = 1 ∧ u = 7) ∨ (x = 2 ∧ u = 9) ∨ (x = 3 ∧ u = 99)) (h : Ph (some (.int u)) A L) : qC E mm_X7_most d [.int x] A L Ph := by
  refine qC.enter (by decide) (Nat.le_of_ble_eq_true rfl) ?_
  rcases hx with ⟨rfl, rfl⟩ | ⟨rfl, rfl⟩ | ⟨rfl, rfl⟩ | ⟨rfl, rfl⟩
  · refine r_iload_n dX7_most_0 rfl ?_
    refine r_if_eq (tgt := 9) dX7_most_1 (by decide) (fun _ => ?_) (fun hqz => absurd (by decide) hqz)
    refine r_bipush (v := 99) dX7_most_9 rfl ?_
    refine r_goto (tgt := 26) dX7_most_11 (by decide) ?_
    refine r_ireturn dX7_most_26 rfl rfl ?_
    exact h
  · refine r_iload_n dX7_most_0 rfl ?_
    refine r_if_eq (tgt := 9) dX7_most_1 (by decide) (fun hqz => absurd hqz (by decide)) (fun _ => ?_)
    refine r_iload_n dX7_most_4 rfl ?_
    refine r_iconst (v := 3) dX7_most_5 rfl ?_
    refine r_icmp_ne (tgt := 14) dX7_most_6 (by decide) (fun _ => ?_) (fun hqz => absurd hqz (by decide))
    refine r_iload_n dX7_most_14 rfl ?_
    refine r_iconst (v := 1) dX7_most_15 rfl ?_
    refine r_icmp_ne (tgt := 24) dX7_most_16 (by decide) (fun hqz => absurd (by decide) hqz) (fun _ => ?_)
    refine r_bipush (v := 7) dX7_most_19 rfl ?_
    refine r_goto (tgt := 26) dX7_most_21 (by decide) ?_
    refine r_ireturn dX7_most_26 rfl rfl ?_
    exact h
  · refine r_iload_n dX7_most_0 rfl ?_
    refine r_if_eq (tgt := 9) dX7_most_1 (by decide) (fun hqz => absurd hqz (by decide)) (fun _ => ?_)
    refine r_iload_n dX7_most_4 rfl ?_
    refine r_iconst (v := 3) dX7_most_5 rfl ?_
    refine r_icmp_ne (tgt := 14) dX7_most_6 (by decide) (fun _ => ?_) (fun hqz => absurd hqz (by decide))
    refine r_iload_n dX7_most_14 rfl ?_
    refine r_iconst (v := 1) dX7_most_15 rfl ?_
    refine r_icmp_ne (tgt := 24) dX7_most_16 (by decide) (fun _ => ?_) (fun hqz => absurd hqz (by decide))
    refine r_bipush (v := 9) dX7_most_24 rfl ?_
    refine r_ireturn dX7_most_26 rfl rfl ?_
    exact h
  · refine r_iload_n dX7_most_0 rfl ?_
    refine r_if_eq (tgt := 9) dX7_most_1 (by decide) (fun hqz => absurd hqz (by decide)) (fun _ => ?_)
    refine r_iload_n dX7_most_4 rfl ?_
    refine r_iconst (v := 3) dX7_most_5 rfl ?_
    refine r_icmp_ne (tgt := 14) dX7_most_6 (by decide) (fun hqz => absurd (by decide) hqz) (fun _ => ?_)
    refine r_bipush (v := 99) dX7_most_9 rfl ?_
    refine r_goto (tgt := 26) dX7_most_11 (by decide) ?_
    refine r_ireturn dX7_most_26 rfl rfl ?_
    exact h
theorem plc_0 (hE : hM E) {of : Int32} (h : Ph (some (.int 61)) A L) : qC E mm_X7_place (d + 2) [.ref 38, .int 0, .int of] A L Ph := by
  refine qC.enter (by decide) (Nat.le_of_ble_eq_true rfl) ?_
  refine r_iload_n dX7_place_0 rfl ?_
  refine r_if_ne (tgt := 7) dX7_place_1 (by decide) (fun hqz => absurd (by decide) hqz) (fun _ => ?_)
  refine r_bipush (v := 61) dX7_place_4 rfl ?_
  refine r_ireturn dX7_place_6 rfl rfl ?_
  exact h
theorem plc_1t (hE : hM E) {i : Nat} (hi : i < 40) (h : Ph (some (.int (nI i))) A L) : qC E mm_X7_place (d + 2) [.ref 38, .int 1, .int (nI i)] A L Ph := by
  refine qC.enter (by decide) (Nat.le_of_ble_eq_true rfl) ?_
  refine r_iload_n dX7_place_0 rfl ?_
  refine r_if_ne (tgt := 7) dX7_place_1 (by decide) (fun _ => ?_) (fun hqz => absurd hqz (by decide))
  refine r_iload_n dX7_place_7 rfl ?_
  refine r_iconst (v := 1) dX7_place_8 rfl ?_
  refine r_icmp_ne (tgt := 28) dX7_place_9 (by decide) (fun hqz => absurd (by decide) hqz) (fun _ => ?_)
  refine r_iload_n dX7_place_12 rfl ?_
  refine r_iconst (v := 0) dX7_place_13 rfl ?_
  refine r_bipush (v := 39) dX7_place_14 rfl ?_
  refine r_callS3 dX7_place_16 lk_X7_78 (Nat.le_of_ble_eq_true rfl) (in_t (lim := 40) rfl rfl (by decide) hi ?_)
  refine r_if_eq (tgt := 26) dX7_place_19 (by decide) (fun hqz => absurd hqz (by decide)) (fun _ => ?_)
  refine r_iload_n dX7_place_22 rfl ?_
  refine r_goto (tgt := 27) dX7_place_23 (by decide) ?_
  refine r_ireturn dX7_place_27 rfl rfl ?_
  exact h
theorem plc_1f (hE : hM E) {of : Int32} (hv : ∀ i, i < 40 → of ≠ nI i) (h : Ph (some (.int (-1))) A L) : qC E mm_X7_place (d + 2) [.ref 38, .int 1, .int of] A L Ph := by
  refine qC.enter (by decide) (Nat.le_of_ble_eq_true rfl) ?_
  refine r_iload_n dX7_place_0 rfl ?_
  refine r_if_ne (tgt := 7) dX7_place_1 (by decide) (fun _ => ?_) (fun hqz => absurd hqz (by decide))
  refine r_iload_n dX7_place_7 rfl ?_
  refine r_iconst (v := 1) dX7_place_8 rfl ?_
  refine r_icmp_ne (tgt := 28) dX7_place_9 (by decide) (fun hqz => absurd (by decide) hqz) (fun _ => ?_)
  refine r_iload_n dX7_place_12 rfl ?_
  refine r_iconst (v := 0) dX7_place_13 rfl ?_
  refine r_bipush (v := 39) dX7_place_14 rfl ?_
  refine r_callS3 dX7_place_16 lk_X7_78 (Nat.le_of_ble_eq_true rfl) (in_f 40 rfl rfl (by decide) hv ?_)
  refine r_if_eq (tgt := 26) dX7_place_19 (by decide) (fun _ => ?_) (fun hqz => absurd (by decide) hqz)
  refine r_iconst (v := (-1)) dX7_place_26 rfl ?_
  refine r_ireturn dX7_place_27 rfl rfl ?_
  exact h
theorem plc_2t (hE : hM E) {p : Nat} (hn : n ≤ 5) (h60 : A 39 60 = nI n) (hp : p < n) (h : Ph (some (.int (nI (41 + 4 * p)))) A L) : qC E mm_X7_place (d + 2) [.ref 38, .int 2, .int (nI p)] A L Ph := by
  refine qC.enter (by decide) (Nat.le_of_ble_eq_true rfl) ?_
  refine r_iload_n dX7_place_0 rfl ?_
  refine r_if_ne (tgt := 7) dX7_place_1 (by decide) (fun _ => ?_) (fun hqz => absurd hqz (by decide))
  refine r_iload_n dX7_place_7 rfl ?_
  refine r_iconst (v := 1) dX7_place_8 rfl ?_
  refine r_icmp_ne (tgt := 28) dX7_place_9 (by decide) (fun _ => ?_) (fun hqz => absurd hqz (by decide))
  refine r_aload_n dX7_place_28 rfl ?_
  refine r_iload_n dX7_place_29 rfl ?_
  refine r_callV1 dX7_place_30 lk_X7_82 (ly_38 hE) rfl (Nat.le_of_ble_eq_true rfl) (isP_t hE hn h60 hp ?_)
  refine r_if_eq (tgt := 49) dX7_place_33 (by decide) (fun hqz => absurd hqz (by decide)) (fun _ => ?_)
  refine r_bipush (v := 40) dX7_place_36 rfl ?_
  refine r_iconst (v := 4) dX7_place_38 rfl ?_
  refine r_iload_n dX7_place_39 rfl ?_
  refine r_imul dX7_place_40 ?_
  refine r_iadd dX7_place_41 ?_
  refine r_iload_n dX7_place_42 rfl ?_
  refine r_iadd dX7_place_43 ?_
  refine r_iconst (v := 1) dX7_place_44 rfl ?_
  refine r_isub dX7_place_45 ?_
  refine r_rw (y := nI (41 + 4 * p)) (show nI 40 + nI 4 * nI p + nI 2 - nI 1 = _ by rw [pk_mul, nI_add, nI_add, pk_sub (by omega)]; congr 1; omega) ?_
  refine r_goto (tgt := 50) dX7_place_46 (by decide) ?_
  refine r_ireturn dX7_place_50 rfl rfl ?_
  exact h
theorem plc_2f (hE : hM E) {of : Int32} (hn : n ≤ 5) (h60 : A 39 60 = nI n) (hv : ∀ p, p < n → of ≠ nI p) (h : Ph (some (.int (-1))) A L) : qC E mm_X7_place (d + 2) [.ref 38, .int 2, .int of] A L Ph := by
  refine qC.enter (by decide) (Nat.le_of_ble_eq_true rfl) ?_
  refine r_iload_n dX7_place_0 rfl ?_
  refine r_if_ne (tgt := 7) dX7_place_1 (by decide) (fun _ => ?_) (fun hqz => absurd hqz (by decide))
  refine r_iload_n dX7_place_7 rfl ?_
  refine r_iconst (v := 1) dX7_place_8 rfl ?_
  refine r_icmp_ne (tgt := 28) dX7_place_9 (by decide) (fun _ => ?_) (fun hqz => absurd hqz (by decide))
  refine r_aload_n dX7_place_28 rfl ?_
  refine r_iload_n dX7_place_29 rfl ?_
  refine r_callV1 dX7_place_30 lk_X7_82 (ly_38 hE) rfl (Nat.le_of_ble_eq_true rfl) (isP_f hE hn h60 hv ?_)
  refine r_if_eq (tgt := 49) dX7_place_33 (by decide) (fun _ => ?_) (fun hqz => absurd (by decide) hqz)
  refine r_iconst (v := (-1)) dX7_place_49 rfl ?_
  refine r_ireturn dX7_place_50 rfl rfl ?_
  exact h
theorem plc_3t (hE : hM E) {p : Nat} (hn : n ≤ 5) (h60 : A 39 60 = nI n) (hp : p < n) (h : Ph (some (.int (nI (42 + 4 * p)))) A L) : qC E mm_X7_place (d + 2) [.ref 38, .int 3, .int (nI p)] A L Ph := by
  refine qC.enter (by decide) (Nat.le_of_ble_eq_true rfl) ?_
  refine r_iload_n dX7_place_0 rfl ?_
  refine r_if_ne (tgt := 7) dX7_place_1 (by decide) (fun _ => ?_) (fun hqz => absurd hqz (by decide))
  refine r_iload_n dX7_place_7 rfl ?_
  refine r_iconst (v := 1) dX7_place_8 rfl ?_
  refine r_icmp_ne (tgt := 28) dX7_place_9 (by decide) (fun _ => ?_) (fun hqz => absurd hqz (by decide))
  refine r_aload_n dX7_place_28 rfl ?_
  refine r_iload_n dX7_place_29 rfl ?_
  refine r_callV1 dX7_place_30 lk_X7_82 (ly_38 hE) rfl (Nat.le_of_ble_eq_true rfl) (isP_t hE hn h60 hp ?_)
  refine r_if_eq (tgt := 49) dX7_place_33 (by decide) (fun hqz => absurd hqz (by decide)) (fun _ => ?_)
  refine r_bipush (v := 40) dX7_place_36 rfl ?_
  refine r_iconst (v := 4) dX7_place_38 rfl ?_
  refine r_iload_n dX7_place_39 rfl ?_
  refine r_imul dX7_place_40 ?_
  refine r_iadd dX7_place_41 ?_
  refine r_iload_n dX7_place_42 rfl ?_
  refine r_iadd dX7_place_43 ?_
  refine r_iconst (v := 1) dX7_place_44 rfl ?_
  refine r_isub dX7_place_45 ?_
  refine r_rw (y := nI (42 + 4 * p)) (show nI 40 + nI 4 * nI p + nI 3 - nI 1 = _ by rw [pk_mul, nI_add, nI_add, pk_sub (by omega)]; congr 1; omega) ?_
  refine r_goto (tgt := 50) dX7_place_46 (by decide) ?_
  refine r_ireturn dX7_place_50 rfl rfl ?_
  exact h
theorem plc_3f (hE : hM E) {of : Int32} (hn : n ≤ 5) (h60 : A 39 60 = nI n) (hv : ∀ p, p < n → of ≠ nI p) (h : Ph (some (.int (-1))) A L) : qC E mm_X7_place (d + 2) [.ref 38, .int 3, .int of] A L Ph := by
  refine qC.enter (by decide) (Nat.le_of_ble_eq_true rfl) ?_
  refine r_iload_n dX7_place_0 rfl ?_
  refine r_if_ne (tgt := 7) dX7_place_1 (by decide) (fun _ => ?_) (fun hqz => absurd hqz (by decide))
  refine r_iload_n dX7_place_7 rfl ?_
  refine r_iconst (v := 1) dX7_place_8 rfl ?_
  refine r_icmp_ne (tgt := 28) dX7_place_9 (by decide) (fun _ => ?_) (fun hqz => absurd hqz (by decide))
  refine r_aload_n dX7_place_28 rfl ?_
  refine r_iload_n dX7_place_29 rfl ?_
  refine r_callV1 dX7_place_30 lk_X7_82 (ly_38 hE) rfl (Nat.le_of_ble_eq_true rfl) (isP_f hE hn h60 hv ?_)
  refine r_if_eq (tgt := 49) dX7_place_33 (by decide) (fun _ => ?_) (fun hqz => absurd (by decide) hqz)
  refine r_iconst (v := (-1)) dX7_place_49 rfl ?_
  refine r_ireturn dX7_place_50 rfl rfl ?_
  exact h
set_option maxRecDepth 100000 in
set_option maxHeartbeats 4000000 in
theorem thr_t (hE : hC E) {t : Nat} (ht : t < 100) (h : Ph (some (.int (A 1 6))) (s2 A 1 6 (nI t)) L) : qC E mm_X6_turnHour (d + 1) [.ref 0, .int (nI t)] A L Ph := by
  refine qC.enter (by decide) (Nat.le_of_ble_eq_true rfl) ?_
  refine r_iload_n dX6_turnHour_0 rfl ?_
  refine r_bipush (v := 100) dX6_turnHour_1 rfl ?_
  refine r_callS2 dX6_turnHour_3 lk_X6_100 (Nat.le_of_ble_eq_true rfl) (win_t (lim := 100) rfl (by decide) ht ?_)
  refine r_if_ne (tgt := 12) dX6_turnHour_6 (by decide) (fun _ => ?_) (fun hqz => absurd hqz (by decide))
  refine r_aload_n dX6_turnHour_12 rfl ?_
  refine r_getR dX6_turnHour_13 fl_X6_10 (ly_0 hE) rfl ?_
  refine r_getI dX6_turnHour_16 fl_X6_104 (ly_1 hE) rfl ?_
  refine r_topi (fun v19 e19 => ?_)
  refine r_istore_n (loc' := [(2, .int v19), (0, .ref 0), (1, .int (nI t))]) dX6_turnHour_19 (by decide) rfl ?_
  refine r_aload_n dX6_turnHour_20 rfl ?_
  refine r_getR dX6_turnHour_21 fl_X6_10 (ly_0 hE) rfl ?_
  refine r_iload_n dX6_turnHour_24 rfl ?_
  refine r_putI dX6_turnHour_25 fl_X6_104 fp_2_6 (ly_1 hE) rfl rfl rfl ?_
  refine r_iload_n dX6_turnHour_28 rfl ?_
  refine r_ireturn dX6_turnHour_29 rfl rfl ?_
  subst e19
  exact h
set_option maxRecDepth 100000 in
set_option maxHeartbeats 4000000 in
theorem thr_f (hE : hC E) {v : Int32} (hv : ∀ j, j < 100 → v ≠ nI j) (h : Ph (some (.int (-2))) A L) : qC E mm_X6_turnHour (d + 1) [.ref 0, .int v] A L Ph := by
  refine qC.enter (by decide) (Nat.le_of_ble_eq_true rfl) ?_
  refine r_iload_n dX6_turnHour_0 rfl ?_
  refine r_bipush (v := 100) dX6_turnHour_1 rfl ?_
  refine r_callS2 dX6_turnHour_3 lk_X6_100 (Nat.le_of_ble_eq_true rfl) (win_f 100 rfl (by decide) hv ?_)
  refine r_if_ne (tgt := 12) dX6_turnHour_6 (by decide) (fun hqz => absurd (by decide) hqz) (fun _ => ?_)
  refine r_bipush (v := (-2)) dX6_turnHour_9 rfl ?_
  refine r_ireturn dX6_turnHour_11 rfl rfl ?_
  exact h
set_option maxRecDepth 100000 in
set_option maxHeartbeats 4000000 in
theorem op_set (hE : hM E) (hW : WfS S T n z) (what of v : Int32) : OpOK E (d + 3) mm_X6_set mm_X7_set [.int what, .int of, .int v] S T n z := by
  have hEc := hE.c
  have hN := hW.2.2.2.2.1
  have hn := hN.1
  have h60 := hN.2.1
  have bad : (what = 0 ∧ (∀ j, j < 100 → v ≠ nI j)) ∨ (what = 1 ∧ ((∀ i, i < 40 → of ≠ nI i) ∨ ∀ t, t < 8 → v ≠ nI t)) ∨ (what = 2 ∧ ((∀ i, i < n → of ≠ nI i) ∨ ∀ t, t < 10 → v ≠ nI t)) ∨ (what = 3 ∧ ((∀ i, i < n → of ≠ nI i) ∨ ∀ t, t < 100 → v ≠ nI t)) ∨ (¬ what = 0 ∧ ¬ what = 1 ∧ ¬ what = 2 ∧ ¬ what = 3) → OpOK E (d + 3) mm_X6_set mm_X7_set [.int what, .int of, .int v] S T n z := by
    intro hb
    refine ⟨.int (-2), S, T, n, z, ⟨_, rfl⟩, hW, fun A L Ph hR hk => ?_, fun A L Ph hR hk => ?_⟩
    · have K := hk A L hR (fun _ _ => rfl)
      have h5 : A 1 5 = nI n := hR.1.2.2.1.trans h60
      refine qC.enter (by decide) (Nat.le_of_ble_eq_true rfl) ?_
      rcases hb with ⟨rfl, hb⟩ | ⟨rfl, hb⟩ | ⟨rfl, hb⟩ | ⟨rfl, hb⟩ | ⟨e0, e1, e2, e3⟩
      · refine r_iload_n dX6_set_0 rfl ?_
        refine r_tableIn (off := 31) (tgt := 32) dX6_set_1 (by decide) (by decide) rfl (by decide) ?_
        refine r_aload_n dX6_set_32 rfl ?_
        refine r_iload_n dX6_set_33 rfl ?_
        refine r_callV1 dX6_set_34 lk_X6_78 (ly_0 hEc) rfl (Nat.le_of_ble_eq_true rfl) (thr_f hEc hb ?_)
        refine r_ireturn dX6_set_37 rfl rfl ?_
        exact K
      · refine r_iload_n dX6_set_0 rfl ?_
        refine r_tableIn (off := 37) (tgt := 38) dX6_set_1 (by decide) (by decide) rfl (by decide) ?_
        refine r_aload_n dX6_set_38 rfl ?_
        refine r_getR dX6_set_39 fl_X6_10 (ly_0 hEc) rfl ?_
        refine r_getR dX6_set_42 fl_X6_82 (ly_1 hEc) rfl ?_
        refine r_bipush (v := 40) dX6_set_45 rfl ?_
        refine r_iload_n dX6_set_47 rfl ?_
        refine r_iload_n dX6_set_48 rfl ?_
        refine r_bipush (v := 8) dX6_set_49 rfl ?_
        refine r_callS5 dX6_set_51 lk_X6_86 (Nat.le_of_ble_eq_true rfl) (chg_f12 hEc (sz := 40) rfl (by decide) (lim := 8) rfl (by decide) hb ?_)
        refine r_ireturn dX6_set_54 rfl rfl ?_
        exact K
      · refine r_iload_n dX6_set_0 rfl ?_
        refine r_tableIn (off := 54) (tgt := 55) dX6_set_1 (by decide) (by decide) rfl (by decide) ?_
        refine r_aload_n dX6_set_55 rfl ?_
        refine r_getR dX6_set_56 fl_X6_10 (ly_0 hEc) rfl ?_
        refine r_getR dX6_set_59 fl_X6_90 (ly_1 hEc) rfl ?_
        refine r_aload_n dX6_set_62 rfl ?_
        refine r_getR dX6_set_63 fl_X6_10 (ly_0 hEc) rfl ?_
        refine r_getI dX6_set_66 fl_X6_93 (ly_1 hEc) rfl ?_
        refine r_rw (y := nI n) h5 ?_
        refine r_iload_n dX6_set_69 rfl ?_
        refine r_iload_n dX6_set_70 rfl ?_
        refine r_bipush (v := 10) dX6_set_71 rfl ?_
        refine r_callS5 dX6_set_73 lk_X6_86 (Nat.le_of_ble_eq_true rfl) (chg_f14 hEc rfl hn (lim := 10) rfl (by decide) hb ?_)
        refine r_ireturn dX6_set_76 rfl rfl ?_
        exact K
      · refine r_iload_n dX6_set_0 rfl ?_
        refine r_tableIn (off := 76) (tgt := 77) dX6_set_1 (by decide) (by decide) rfl (by decide) ?_
        refine r_aload_n dX6_set_77 rfl ?_
        refine r_getR dX6_set_78 fl_X6_10 (ly_0 hEc) rfl ?_
        refine r_getR dX6_set_81 fl_X6_97 (ly_1 hEc) rfl ?_
        refine r_aload_n dX6_set_84 rfl ?_
        refine r_getR dX6_set_85 fl_X6_10 (ly_0 hEc) rfl ?_
        refine r_getI dX6_set_88 fl_X6_93 (ly_1 hEc) rfl ?_
        refine r_rw (y := nI n) h5 ?_
        refine r_iload_n dX6_set_91 rfl ?_
        refine r_iload_n dX6_set_92 rfl ?_
        refine r_bipush (v := 100) dX6_set_93 rfl ?_
        refine r_callS5 dX6_set_95 lk_X6_86 (Nat.le_of_ble_eq_true rfl) (chg_f15 hEc rfl hn (lim := 100) rfl (by decide) hb ?_)
        refine r_ireturn dX6_set_98 rfl rfl ?_
        exact K
      · refine r_iload_n dX6_set_0 rfl ?_
        refine r_tableOut (tgt := 99) dX6_set_1 (sw_0_3 e0 e1 e2 e3) (by decide) ?_
        refine r_bipush (v := (-2)) dX6_set_99 rfl ?_
        refine r_ireturn dX6_set_101 rfl rfl ?_
        exact K
    · have K := hk A L hR (fun _ _ => rfl)
      have h6 : A 39 60 = nI n := by rw [hR.1]; exact h60
      refine qC.enter (by decide) (Nat.le_of_ble_eq_true rfl) ?_
      rcases hb with ⟨rfl, hb⟩ | ⟨rfl, hb⟩ | ⟨rfl, hb⟩ | ⟨rfl, hb⟩ | ⟨e0, e1, e2, e3⟩
      · refine r_iload_n dX7_set_0 rfl ?_
        refine r_iconst (v := 0) dX7_set_1 rfl ?_
        refine r_iconst (v := 3) dX7_set_2 rfl ?_
        refine r_callS3 dX7_set_3 lk_X7_78 (Nat.le_of_ble_eq_true rfl) (in_t (j := 0) (lim := 4) rfl rfl (by decide) (by decide) ?_)
        refine r_if_eq (tgt := 31) dX7_set_6 (by decide) (fun hqz => absurd hqz (by decide)) (fun _ => ?_)
        refine r_iload_n dX7_set_9 rfl ?_
        refine r_iconst (v := 0) dX7_set_10 rfl ?_
        refine r_iload_n dX7_set_11 rfl ?_
        refine r_callS1 dX7_set_12 lk_X7_86 (Nat.le_of_ble_eq_true rfl) (sp_X7_most (u := 99) (by decide) ?_)
        refine r_callS3 dX7_set_15 lk_X7_78 (Nat.le_of_ble_eq_true rfl) (in_f 100 rfl rfl (by decide) hb ?_)
        refine r_if_eq (tgt := 31) dX7_set_18 (by decide) (fun _ => ?_) (fun hqz => absurd (by decide) hqz)
        refine r_bipush (v := (-2)) dX7_set_31 rfl ?_
        refine r_ireturn dX7_set_33 rfl rfl ?_
        exact K
      · refine r_iload_n dX7_set_0 rfl ?_
        refine r_iconst (v := 0) dX7_set_1 rfl ?_
        refine r_iconst (v := 3) dX7_set_2 rfl ?_
        refine r_callS3 dX7_set_3 lk_X7_78 (Nat.le_of_ble_eq_true rfl) (in_t (j := 1) (lim := 4) rfl rfl (by decide) (by decide) ?_)
        refine r_if_eq (tgt := 31) dX7_set_6 (by decide) (fun hqz => absurd hqz (by decide)) (fun _ => ?_)
        refine r_iload_n dX7_set_9 rfl ?_
        refine r_iconst (v := 0) dX7_set_10 rfl ?_
        refine r_iload_n dX7_set_11 rfl ?_
        refine r_callS1 dX7_set_12 lk_X7_86 (Nat.le_of_ble_eq_true rfl) (sp_X7_most (u := 7) (by decide) ?_)
        refine r_callS3 dX7_set_15 lk_X7_78 (Nat.le_of_ble_eq_true rfl) (sp_isIn0 8 rfl rfl (by decide) (fun t ht et => ?_) (fun _ => ?_))
        · subst et
          refine r_if_eq (tgt := 31) dX7_set_18 (by decide) (fun hqz => absurd hqz (by decide)) (fun _ => ?_)
          refine r_aload_n dX7_set_21 rfl ?_
          refine r_iload_n dX7_set_22 rfl ?_
          refine r_iload_n dX7_set_23 rfl ?_
          refine r_callV2 dX7_set_24 lk_X7_90 (ly_38 hE) rfl (Nat.le_of_ble_eq_true rfl) (plc_1f hE (hb.resolve_right (fun q => absurd rfl (q t ht))) ?_)
          refine r_iconst (v := (-1)) dX7_set_27 rfl ?_
          refine r_icmp_ne (tgt := 34) dX7_set_28 (by decide) (fun hqz => absurd (by decide) hqz) (fun _ => ?_)
          refine r_bipush (v := (-2)) dX7_set_31 rfl ?_
          refine r_ireturn dX7_set_33 rfl rfl ?_
          exact K
        · refine r_if_eq (tgt := 31) dX7_set_18 (by decide) (fun _ => ?_) (fun hqz => absurd (by decide) hqz)
          refine r_bipush (v := (-2)) dX7_set_31 rfl ?_
          refine r_ireturn dX7_set_33 rfl rfl ?_
          exact K
      · refine r_iload_n dX7_set_0 rfl ?_
        refine r_iconst (v := 0) dX7_set_1 rfl ?_
        refine r_iconst (v := 3) dX7_set_2 rfl ?_
        refine r_callS3 dX7_set_3 lk_X7_78 (Nat.le_of_ble_eq_true rfl) (in_t (j := 2) (lim := 4) rfl rfl (by decide) (by decide) ?_)
        refine r_if_eq (tgt := 31) dX7_set_6 (by decide) (fun hqz => absurd hqz (by decide)) (fun _ => ?_)
        refine r_iload_n dX7_set_9 rfl ?_
        refine r_iconst (v := 0) dX7_set_10 rfl ?_
        refine r_iload_n dX7_set_11 rfl ?_
        refine r_callS1 dX7_set_12 lk_X7_86 (Nat.le_of_ble_eq_true rfl) (sp_X7_most (u := 9) (by decide) ?_)
        refine r_callS3 dX7_set_15 lk_X7_78 (Nat.le_of_ble_eq_true rfl) (sp_isIn0 10 rfl rfl (by decide) (fun t ht et => ?_) (fun _ => ?_))
        · subst et
          refine r_if_eq (tgt := 31) dX7_set_18 (by decide) (fun hqz => absurd hqz (by decide)) (fun _ => ?_)
          refine r_aload_n dX7_set_21 rfl ?_
          refine r_iload_n dX7_set_22 rfl ?_
          refine r_iload_n dX7_set_23 rfl ?_
          refine r_callV2 dX7_set_24 lk_X7_90 (ly_38 hE) rfl (Nat.le_of_ble_eq_true rfl) (plc_2f hE hn h6 (hb.resolve_right (fun q => absurd rfl (q t ht))) ?_)
          refine r_iconst (v := (-1)) dX7_set_27 rfl ?_
          refine r_icmp_ne (tgt := 34) dX7_set_28 (by decide) (fun hqz => absurd (by decide) hqz) (fun _ => ?_)
          refine r_bipush (v := (-2)) dX7_set_31 rfl ?_
          refine r_ireturn dX7_set_33 rfl rfl ?_
          exact K
        · refine r_if_eq (tgt := 31) dX7_set_18 (by decide) (fun _ => ?_) (fun hqz => absurd (by decide) hqz)
          refine r_bipush (v := (-2)) dX7_set_31 rfl ?_
          refine r_ireturn dX7_set_33 rfl rfl ?_
          exact K
      · refine r_iload_n dX7_set_0 rfl ?_
        refine r_iconst (v := 0) dX7_set_1 rfl ?_
        refine r_iconst (v := 3) dX7_set_2 rfl ?_
        refine r_callS3 dX7_set_3 lk_X7_78 (Nat.le_of_ble_eq_true rfl) (in_t (j := 3) (lim := 4) rfl rfl (by decide) (by decide) ?_)
        refine r_if_eq (tgt := 31) dX7_set_6 (by decide) (fun hqz => absurd hqz (by decide)) (fun _ => ?_)
        refine r_iload_n dX7_set_9 rfl ?_
        refine r_iconst (v := 0) dX7_set_10 rfl ?_
        refine r_iload_n dX7_set_11 rfl ?_
        refine r_callS1 dX7_set_12 lk_X7_86 (Nat.le_of_ble_eq_true rfl) (sp_X7_most (u := 99) (by decide) ?_)
        refine r_callS3 dX7_set_15 lk_X7_78 (Nat.le_of_ble_eq_true rfl) (sp_isIn0 100 rfl rfl (by decide) (fun t ht et => ?_) (fun _ => ?_))
        · subst et
          refine r_if_eq (tgt := 31) dX7_set_18 (by decide) (fun hqz => absurd hqz (by decide)) (fun _ => ?_)
          refine r_aload_n dX7_set_21 rfl ?_
          refine r_iload_n dX7_set_22 rfl ?_
          refine r_iload_n dX7_set_23 rfl ?_
          refine r_callV2 dX7_set_24 lk_X7_90 (ly_38 hE) rfl (Nat.le_of_ble_eq_true rfl) (plc_3f hE hn h6 (hb.resolve_right (fun q => absurd rfl (q t ht))) ?_)
          refine r_iconst (v := (-1)) dX7_set_27 rfl ?_
          refine r_icmp_ne (tgt := 34) dX7_set_28 (by decide) (fun hqz => absurd (by decide) hqz) (fun _ => ?_)
          refine r_bipush (v := (-2)) dX7_set_31 rfl ?_
          refine r_ireturn dX7_set_33 rfl rfl ?_
          exact K
        · refine r_if_eq (tgt := 31) dX7_set_18 (by decide) (fun _ => ?_) (fun hqz => absurd (by decide) hqz)
          refine r_bipush (v := (-2)) dX7_set_31 rfl ?_
          refine r_ireturn dX7_set_33 rfl rfl ?_
          exact K
      · refine r_iload_n dX7_set_0 rfl ?_
        refine r_iconst (v := 0) dX7_set_1 rfl ?_
        refine r_iconst (v := 3) dX7_set_2 rfl ?_
        refine r_callS3 dX7_set_3 lk_X7_78 (Nat.le_of_ble_eq_true rfl) (in_f 4 rfl rfl (by decide) (fun j hj => by rcases (show j = 0 ∨ j = 1 ∨ j = 2 ∨ j = 3 by omega) with rfl | rfl | rfl | rfl <;> assumption) ?_)
        refine r_if_eq (tgt := 31) dX7_set_6 (by decide) (fun _ => ?_) (fun hqz => absurd (by decide) hqz)
        refine r_bipush (v := (-2)) dX7_set_31 rfl ?_
        refine r_ireturn dX7_set_33 rfl rfl ?_
        exact K
  by_cases w0 : what = 0
  · subst w0
    rcases pk_cases v 100 with ⟨t, ht, rfl⟩ | hv
    · refine ⟨.int (S 39 61), s2 S 39 61 (nI t), T, n, z, ⟨_, rfl⟩, hW.now s2_39 (by rw [s2_eq]; exact hN.hour ht), fun A L Ph hR hk => ?_, fun A L Ph hR hk => ?_⟩
      · have K := hk (s2 A 1 6 (nI t)) L (hR.now s2_39 (Fr.s2 (by decide)) (by rw [s2_eq]; exact hR.1.hour hn)) (Fr.hi (Fr.s2 (X := [1]) (by decide)) (by decide))
        rw [← hR.1.2.2.2.1] at K
        refine qC.enter (by decide) (Nat.le_of_ble_eq_true rfl) ?_
        refine r_iload_n dX6_set_0 rfl ?_
        refine r_tableIn (off := 31) (tgt := 32) dX6_set_1 (by decide) (by decide) rfl (by decide) ?_
        refine r_aload_n dX6_set_32 rfl ?_
        refine r_iload_n dX6_set_33 rfl ?_
        refine r_callV1 dX6_set_34 lk_X6_78 (ly_0 hEc) rfl (Nat.le_of_ble_eq_true rfl) (thr_t hEc ht ?_)
        refine r_ireturn dX6_set_37 rfl rfl ?_
        exact K
      · have K := hk (s2 A 39 61 (nI t)) L (hR.now s2_39 (Fr.s2 (by decide)) (by rw [s2_eq, s2_eq, hR.1])) (Fr.lo (Fr.s2 (X := [39]) (by decide)) (by decide))
        rw [← hR.1] at K
        refine qC.enter (by decide) (Nat.le_of_ble_eq_true rfl) ?_
        refine r_iload_n dX7_set_0 rfl ?_
        refine r_iconst (v := 0) dX7_set_1 rfl ?_
        refine r_iconst (v := 3) dX7_set_2 rfl ?_
        refine r_callS3 dX7_set_3 lk_X7_78 (Nat.le_of_ble_eq_true rfl) (in_t (j := 0) (lim := 4) rfl rfl (by decide) (by decide) ?_)
        refine r_if_eq (tgt := 31) dX7_set_6 (by decide) (fun hqz => absurd hqz (by decide)) (fun _ => ?_)
        refine r_iload_n dX7_set_9 rfl ?_
        refine r_iconst (v := 0) dX7_set_10 rfl ?_
        refine r_iload_n dX7_set_11 rfl ?_
        refine r_callS1 dX7_set_12 lk_X7_86 (Nat.le_of_ble_eq_true rfl) (sp_X7_most (u := 99) (by decide) ?_)
        refine r_callS3 dX7_set_15 lk_X7_78 (Nat.le_of_ble_eq_true rfl) (in_t (lim := 100) rfl rfl (by decide) ht ?_)
        refine r_if_eq (tgt := 31) dX7_set_18 (by decide) (fun hqz => absurd hqz (by decide)) (fun _ => ?_)
        refine r_aload_n dX7_set_21 rfl ?_
        refine r_iload_n dX7_set_22 rfl ?_
        refine r_iload_n dX7_set_23 rfl ?_
        refine r_callV2 dX7_set_24 lk_X7_90 (ly_38 hE) rfl (Nat.le_of_ble_eq_true rfl) (plc_0 hE ?_)
        refine r_iconst (v := (-1)) dX7_set_27 rfl ?_
        refine r_icmp_ne (tgt := 34) dX7_set_28 (by decide) (fun _ => ?_) (fun hqz => absurd hqz (by decide))
        refine r_aload_n dX7_set_34 rfl ?_
        refine r_getR dX7_set_35 fl_X7_7 (ly_38 hE) rfl ?_
        refine r_aload_n dX7_set_38 rfl ?_
        refine r_iload_n dX7_set_39 rfl ?_
        refine r_iload_n dX7_set_40 rfl ?_
        refine r_callV2 dX7_set_41 lk_X7_90 (ly_38 hE) rfl (Nat.le_of_ble_eq_true rfl) (plc_0 hE ?_)
        refine r_rw (y := nI 61) rfl ?_
        refine r_ialdN dX7_set_44 (ly_39 hE) (by decide) (by decide) ?_
        refine r_topi (fun v45 e45 => ?_)
        refine r_istore (loc' := [(4, .int v45), (0, .ref 38), (1, .int 0), (2, .int of), (3, .int (nI t))]) dX7_set_45 (by decide) rfl ?_
        refine r_aload_n dX7_set_47 rfl ?_
        refine r_getR dX7_set_48 fl_X7_7 (ly_38 hE) rfl ?_
        refine r_aload_n dX7_set_51 rfl ?_
        refine r_iload_n dX7_set_52 rfl ?_
        refine r_iload_n dX7_set_53 rfl ?_
        refine r_callV2 dX7_set_54 lk_X7_90 (ly_38 hE) rfl (Nat.le_of_ble_eq_true rfl) (plc_0 hE ?_)
        refine r_rw (y := nI 61) rfl ?_
        refine r_iload_n dX7_set_57 rfl ?_
        refine r_iastN dX7_set_58 (ly_39 hE) (by decide) (by decide) ?_
        refine r_iload dX7_set_59 rfl ?_
        refine r_ireturn dX7_set_61 rfl rfl ?_
        subst e45
        exact K
    · exact bad (Or.inl ⟨rfl, hv⟩)
  by_cases w1 : what = 1
  · subst w1
    rcases pk_cases of 40 with ⟨i, hi, rfl⟩ | hv
    · rcases pk_cases v 8 with ⟨t, ht, rfl⟩ | hv
      · refine ⟨.int (S 39 i), s2 S 39 i (nI t), T, n, z, ⟨_, rfl⟩, hW.now s2_39 (by rw [s2_eq]; exact hN.thing hi ht), fun A L Ph hR hk => ?_, fun A L Ph hR hk => ?_⟩
        · have K := hk (s2 A 12 i (nI t)) L (hR.now s2_39 (Fr.s2 (by decide)) (by rw [s2_eq]; exact hR.1.thing hn hi)) (Fr.hi (Fr.s2 (X := [12]) (by decide)) (by decide))
          rw [← hR.1.1 i hi] at K
          refine qC.enter (by decide) (Nat.le_of_ble_eq_true rfl) ?_
          refine r_iload_n dX6_set_0 rfl ?_
          refine r_tableIn (off := 37) (tgt := 38) dX6_set_1 (by decide) (by decide) rfl (by decide) ?_
          refine r_aload_n dX6_set_38 rfl ?_
          refine r_getR dX6_set_39 fl_X6_10 (ly_0 hEc) rfl ?_
          refine r_getR dX6_set_42 fl_X6_82 (ly_1 hEc) rfl ?_
          refine r_bipush (v := 40) dX6_set_45 rfl ?_
          refine r_iload_n dX6_set_47 rfl ?_
          refine r_iload_n dX6_set_48 rfl ?_
          refine r_bipush (v := 8) dX6_set_49 rfl ?_
          refine r_callS5 dX6_set_51 lk_X6_86 (Nat.le_of_ble_eq_true rfl) (chg_t12 hEc (sz := 40) rfl (by decide) hi (lim := 8) rfl (by decide) ht ?_)
          refine r_ireturn dX6_set_54 rfl rfl ?_
          exact K
        · have K := hk (s2 A 39 i (nI t)) L (hR.now s2_39 (Fr.s2 (by decide)) (by rw [s2_eq, s2_eq, hR.1])) (Fr.lo (Fr.s2 (X := [39]) (by decide)) (by decide))
          rw [← hR.1] at K
          refine qC.enter (by decide) (Nat.le_of_ble_eq_true rfl) ?_
          refine r_iload_n dX7_set_0 rfl ?_
          refine r_iconst (v := 0) dX7_set_1 rfl ?_
          refine r_iconst (v := 3) dX7_set_2 rfl ?_
          refine r_callS3 dX7_set_3 lk_X7_78 (Nat.le_of_ble_eq_true rfl) (in_t (j := 1) (lim := 4) rfl rfl (by decide) (by decide) ?_)
          refine r_if_eq (tgt := 31) dX7_set_6 (by decide) (fun hqz => absurd hqz (by decide)) (fun _ => ?_)
          refine r_iload_n dX7_set_9 rfl ?_
          refine r_iconst (v := 0) dX7_set_10 rfl ?_
          refine r_iload_n dX7_set_11 rfl ?_
          refine r_callS1 dX7_set_12 lk_X7_86 (Nat.le_of_ble_eq_true rfl) (sp_X7_most (u := 7) (by decide) ?_)
          refine r_callS3 dX7_set_15 lk_X7_78 (Nat.le_of_ble_eq_true rfl) (in_t (lim := 8) rfl rfl (by decide) ht ?_)
          refine r_if_eq (tgt := 31) dX7_set_18 (by decide) (fun hqz => absurd hqz (by decide)) (fun _ => ?_)
          refine r_aload_n dX7_set_21 rfl ?_
          refine r_iload_n dX7_set_22 rfl ?_
          refine r_iload_n dX7_set_23 rfl ?_
          refine r_callV2 dX7_set_24 lk_X7_90 (ly_38 hE) rfl (Nat.le_of_ble_eq_true rfl) (plc_1t hE hi ?_)
          refine r_iconst (v := (-1)) dX7_set_27 rfl ?_
          refine r_icmp_ne (tgt := 34) dX7_set_28 (by decide) (fun _ => ?_) (fun hqz => absurd hqz (nI_nm1 (by omega)))
          refine r_aload_n dX7_set_34 rfl ?_
          refine r_getR dX7_set_35 fl_X7_7 (ly_38 hE) rfl ?_
          refine r_aload_n dX7_set_38 rfl ?_
          refine r_iload_n dX7_set_39 rfl ?_
          refine r_iload_n dX7_set_40 rfl ?_
          refine r_callV2 dX7_set_41 lk_X7_90 (ly_38 hE) rfl (Nat.le_of_ble_eq_true rfl) (plc_1t hE hi ?_)
          refine r_ialdN dX7_set_44 (ly_39 hE) (by omega) (by decide) ?_
          refine r_topi (fun v45 e45 => ?_)
          refine r_istore (loc' := [(4, .int v45), (0, .ref 38), (1, .int 1), (2, .int (nI i)), (3, .int (nI t))]) dX7_set_45 (by decide) rfl ?_
          refine r_aload_n dX7_set_47 rfl ?_
          refine r_getR dX7_set_48 fl_X7_7 (ly_38 hE) rfl ?_
          refine r_aload_n dX7_set_51 rfl ?_
          refine r_iload_n dX7_set_52 rfl ?_
          refine r_iload_n dX7_set_53 rfl ?_
          refine r_callV2 dX7_set_54 lk_X7_90 (ly_38 hE) rfl (Nat.le_of_ble_eq_true rfl) (plc_1t hE hi ?_)
          refine r_iload_n dX7_set_57 rfl ?_
          refine r_iastN dX7_set_58 (ly_39 hE) (by omega) (by decide) ?_
          refine r_iload dX7_set_59 rfl ?_
          refine r_ireturn dX7_set_61 rfl rfl ?_
          subst e45
          exact K
      · exact bad (Or.inr (Or.inl ⟨rfl, Or.inr hv⟩))
    · exact bad (Or.inr (Or.inl ⟨rfl, Or.inl hv⟩))
  by_cases w2 : what = 2
  · subst w2
    rcases pk_cases of n with ⟨p, hp, rfl⟩ | hv
    · rcases pk_cases v 10 with ⟨t, ht, rfl⟩ | hv
      · refine ⟨.int (S 39 (41 + 4 * p)), s2 S 39 (41 + 4 * p) (nI t), T, n, z, ⟨_, rfl⟩, hW.now s2_39 (by rw [s2_eq]; exact hN.of hp (Or.inl ⟨rfl, ht⟩)), fun A L Ph hR hk => ?_, fun A L Ph hR hk => ?_⟩
        · have h5 : A 1 5 = nI n := hR.1.2.2.1.trans h60
          have K := hk (s2 A 14 p (nI t)) L (hR.now s2_39 (Fr.s2 (by decide)) (by rw [s2_eq]; exact hR.1.of (q := 1) hn hp (by decide))) (Fr.hi (Fr.s2 (X := [14]) (by decide)) (by decide))
          rw [← (hR.1.2.1 p hp).2.1] at K
          refine qC.enter (by decide) (Nat.le_of_ble_eq_true rfl) ?_
          refine r_iload_n dX6_set_0 rfl ?_
          refine r_tableIn (off := 54) (tgt := 55) dX6_set_1 (by decide) (by decide) rfl (by decide) ?_
          refine r_aload_n dX6_set_55 rfl ?_
          refine r_getR dX6_set_56 fl_X6_10 (ly_0 hEc) rfl ?_
          refine r_getR dX6_set_59 fl_X6_90 (ly_1 hEc) rfl ?_
          refine r_aload_n dX6_set_62 rfl ?_
          refine r_getR dX6_set_63 fl_X6_10 (ly_0 hEc) rfl ?_
          refine r_getI dX6_set_66 fl_X6_93 (ly_1 hEc) rfl ?_
          refine r_rw (y := nI n) h5 ?_
          refine r_iload_n dX6_set_69 rfl ?_
          refine r_iload_n dX6_set_70 rfl ?_
          refine r_bipush (v := 10) dX6_set_71 rfl ?_
          refine r_callS5 dX6_set_73 lk_X6_86 (Nat.le_of_ble_eq_true rfl) (chg_t14 hEc rfl hn hp (lim := 10) rfl (by decide) ht ?_)
          refine r_ireturn dX6_set_76 rfl rfl ?_
          exact K
        · have h6 : A 39 60 = nI n := by rw [hR.1]; exact h60
          have K := hk (s2 A 39 (41 + 4 * p) (nI t)) L (hR.now s2_39 (Fr.s2 (by decide)) (by rw [s2_eq, s2_eq, hR.1])) (Fr.lo (Fr.s2 (X := [39]) (by decide)) (by decide))
          rw [← hR.1] at K
          refine qC.enter (by decide) (Nat.le_of_ble_eq_true rfl) ?_
          refine r_iload_n dX7_set_0 rfl ?_
          refine r_iconst (v := 0) dX7_set_1 rfl ?_
          refine r_iconst (v := 3) dX7_set_2 rfl ?_
          refine r_callS3 dX7_set_3 lk_X7_78 (Nat.le_of_ble_eq_true rfl) (in_t (j := 2) (lim := 4) rfl rfl (by decide) (by decide) ?_)
          refine r_if_eq (tgt := 31) dX7_set_6 (by decide) (fun hqz => absurd hqz (by decide)) (fun _ => ?_)
          refine r_iload_n dX7_set_9 rfl ?_
          refine r_iconst (v := 0) dX7_set_10 rfl ?_
          refine r_iload_n dX7_set_11 rfl ?_
          refine r_callS1 dX7_set_12 lk_X7_86 (Nat.le_of_ble_eq_true rfl) (sp_X7_most (u := 9) (by decide) ?_)
          refine r_callS3 dX7_set_15 lk_X7_78 (Nat.le_of_ble_eq_true rfl) (in_t (lim := 10) rfl rfl (by decide) ht ?_)
          refine r_if_eq (tgt := 31) dX7_set_18 (by decide) (fun hqz => absurd hqz (by decide)) (fun _ => ?_)
          refine r_aload_n dX7_set_21 rfl ?_
          refine r_iload_n dX7_set_22 rfl ?_
          refine r_iload_n dX7_set_23 rfl ?_
          refine r_callV2 dX7_set_24 lk_X7_90 (ly_38 hE) rfl (Nat.le_of_ble_eq_true rfl) (plc_2t hE hn h6 hp ?_)
          refine r_iconst (v := (-1)) dX7_set_27 rfl ?_
          refine r_icmp_ne (tgt := 34) dX7_set_28 (by decide) (fun _ => ?_) (fun hqz => absurd hqz (nI_nm1 (by omega)))
          refine r_aload_n dX7_set_34 rfl ?_
          refine r_getR dX7_set_35 fl_X7_7 (ly_38 hE) rfl ?_
          refine r_aload_n dX7_set_38 rfl ?_
          refine r_iload_n dX7_set_39 rfl ?_
          refine r_iload_n dX7_set_40 rfl ?_
          refine r_callV2 dX7_set_41 lk_X7_90 (ly_38 hE) rfl (Nat.le_of_ble_eq_true rfl) (plc_2t hE hn h6 hp ?_)
          refine r_ialdN dX7_set_44 (ly_39 hE) (by omega) (by decide) ?_
          refine r_topi (fun v45 e45 => ?_)
          refine r_istore (loc' := [(4, .int v45), (0, .ref 38), (1, .int 2), (2, .int (nI p)), (3, .int (nI t))]) dX7_set_45 (by decide) rfl ?_
          refine r_aload_n dX7_set_47 rfl ?_
          refine r_getR dX7_set_48 fl_X7_7 (ly_38 hE) rfl ?_
          refine r_aload_n dX7_set_51 rfl ?_
          refine r_iload_n dX7_set_52 rfl ?_
          refine r_iload_n dX7_set_53 rfl ?_
          refine r_callV2 dX7_set_54 lk_X7_90 (ly_38 hE) rfl (Nat.le_of_ble_eq_true rfl) (plc_2t hE hn h6 hp ?_)
          refine r_iload_n dX7_set_57 rfl ?_
          refine r_iastN dX7_set_58 (ly_39 hE) (by omega) (by decide) ?_
          refine r_iload dX7_set_59 rfl ?_
          refine r_ireturn dX7_set_61 rfl rfl ?_
          subst e45
          exact K
      · exact bad (Or.inr (Or.inr (Or.inl ⟨rfl, Or.inr hv⟩)))
    · exact bad (Or.inr (Or.inr (Or.inl ⟨rfl, Or.inl hv⟩)))
  by_cases w3 : what = 3
  · subst w3
    rcases pk_cases of n with ⟨p, hp, rfl⟩ | hv
    · rcases pk_cases v 100 with ⟨t, ht, rfl⟩ | hv
      · refine ⟨.int (S 39 (42 + 4 * p)), s2 S 39 (42 + 4 * p) (nI t), T, n, z, ⟨_, rfl⟩, hW.now s2_39 (by rw [s2_eq]; exact hN.of hp (Or.inr (Or.inl ⟨rfl, ht⟩))), fun A L Ph hR hk => ?_, fun A L Ph hR hk => ?_⟩
        · have h5 : A 1 5 = nI n := hR.1.2.2.1.trans h60
          have K := hk (s2 A 15 p (nI t)) L (hR.now s2_39 (Fr.s2 (by decide)) (by rw [s2_eq]; exact hR.1.of (q := 2) hn hp (by decide))) (Fr.hi (Fr.s2 (X := [15]) (by decide)) (by decide))
          rw [← (hR.1.2.1 p hp).2.2.1] at K
          refine qC.enter (by decide) (Nat.le_of_ble_eq_true rfl) ?_
          refine r_iload_n dX6_set_0 rfl ?_
          refine r_tableIn (off := 76) (tgt := 77) dX6_set_1 (by decide) (by decide) rfl (by decide) ?_
          refine r_aload_n dX6_set_77 rfl ?_
          refine r_getR dX6_set_78 fl_X6_10 (ly_0 hEc) rfl ?_
          refine r_getR dX6_set_81 fl_X6_97 (ly_1 hEc) rfl ?_
          refine r_aload_n dX6_set_84 rfl ?_
          refine r_getR dX6_set_85 fl_X6_10 (ly_0 hEc) rfl ?_
          refine r_getI dX6_set_88 fl_X6_93 (ly_1 hEc) rfl ?_
          refine r_rw (y := nI n) h5 ?_
          refine r_iload_n dX6_set_91 rfl ?_
          refine r_iload_n dX6_set_92 rfl ?_
          refine r_bipush (v := 100) dX6_set_93 rfl ?_
          refine r_callS5 dX6_set_95 lk_X6_86 (Nat.le_of_ble_eq_true rfl) (chg_t15 hEc rfl hn hp (lim := 100) rfl (by decide) ht ?_)
          refine r_ireturn dX6_set_98 rfl rfl ?_
          exact K
        · have h6 : A 39 60 = nI n := by rw [hR.1]; exact h60
          have K := hk (s2 A 39 (42 + 4 * p) (nI t)) L (hR.now s2_39 (Fr.s2 (by decide)) (by rw [s2_eq, s2_eq, hR.1])) (Fr.lo (Fr.s2 (X := [39]) (by decide)) (by decide))
          rw [← hR.1] at K
          refine qC.enter (by decide) (Nat.le_of_ble_eq_true rfl) ?_
          refine r_iload_n dX7_set_0 rfl ?_
          refine r_iconst (v := 0) dX7_set_1 rfl ?_
          refine r_iconst (v := 3) dX7_set_2 rfl ?_
          refine r_callS3 dX7_set_3 lk_X7_78 (Nat.le_of_ble_eq_true rfl) (in_t (j := 3) (lim := 4) rfl rfl (by decide) (by decide) ?_)
          refine r_if_eq (tgt := 31) dX7_set_6 (by decide) (fun hqz => absurd hqz (by decide)) (fun _ => ?_)
          refine r_iload_n dX7_set_9 rfl ?_
          refine r_iconst (v := 0) dX7_set_10 rfl ?_
          refine r_iload_n dX7_set_11 rfl ?_
          refine r_callS1 dX7_set_12 lk_X7_86 (Nat.le_of_ble_eq_true rfl) (sp_X7_most (u := 99) (by decide) ?_)
          refine r_callS3 dX7_set_15 lk_X7_78 (Nat.le_of_ble_eq_true rfl) (in_t (lim := 100) rfl rfl (by decide) ht ?_)
          refine r_if_eq (tgt := 31) dX7_set_18 (by decide) (fun hqz => absurd hqz (by decide)) (fun _ => ?_)
          refine r_aload_n dX7_set_21 rfl ?_
          refine r_iload_n dX7_set_22 rfl ?_
          refine r_iload_n dX7_set_23 rfl ?_
          refine r_callV2 dX7_set_24 lk_X7_90 (ly_38 hE) rfl (Nat.le_of_ble_eq_true rfl) (plc_3t hE hn h6 hp ?_)
          refine r_iconst (v := (-1)) dX7_set_27 rfl ?_
          refine r_icmp_ne (tgt := 34) dX7_set_28 (by decide) (fun _ => ?_) (fun hqz => absurd hqz (nI_nm1 (by omega)))
          refine r_aload_n dX7_set_34 rfl ?_
          refine r_getR dX7_set_35 fl_X7_7 (ly_38 hE) rfl ?_
          refine r_aload_n dX7_set_38 rfl ?_
          refine r_iload_n dX7_set_39 rfl ?_
          refine r_iload_n dX7_set_40 rfl ?_
          refine r_callV2 dX7_set_41 lk_X7_90 (ly_38 hE) rfl (Nat.le_of_ble_eq_true rfl) (plc_3t hE hn h6 hp ?_)
          refine r_ialdN dX7_set_44 (ly_39 hE) (by omega) (by decide) ?_
          refine r_topi (fun v45 e45 => ?_)
          refine r_istore (loc' := [(4, .int v45), (0, .ref 38), (1, .int 3), (2, .int (nI p)), (3, .int (nI t))]) dX7_set_45 (by decide) rfl ?_
          refine r_aload_n dX7_set_47 rfl ?_
          refine r_getR dX7_set_48 fl_X7_7 (ly_38 hE) rfl ?_
          refine r_aload_n dX7_set_51 rfl ?_
          refine r_iload_n dX7_set_52 rfl ?_
          refine r_iload_n dX7_set_53 rfl ?_
          refine r_callV2 dX7_set_54 lk_X7_90 (ly_38 hE) rfl (Nat.le_of_ble_eq_true rfl) (plc_3t hE hn h6 hp ?_)
          refine r_iload_n dX7_set_57 rfl ?_
          refine r_iastN dX7_set_58 (ly_39 hE) (by omega) (by decide) ?_
          refine r_iload dX7_set_59 rfl ?_
          refine r_ireturn dX7_set_61 rfl rfl ?_
          subst e45
          exact K
      · exact bad (Or.inr (Or.inr (Or.inr (Or.inl ⟨rfl, Or.inr hv⟩))))
    · exact bad (Or.inr (Or.inr (Or.inr (Or.inl ⟨rfl, Or.inl hv⟩))))
  exact bad (Or.inr (Or.inr (Or.inr (Or.inr ⟨w0, w1, w2, w3⟩))))
end OPS1
