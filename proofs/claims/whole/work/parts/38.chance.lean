section OPS6
variable {E : mE} {d : Nat} {A S : mA} {L : mJ} {Ph : mP} {T n z p r : Nat} {kd nr : Int32}
theorem f526 {A A' : mA} (h : Fr [5, 26] A A') : ∀ k, 38 ≤ k → A' k = A k := Fr.hi h (by decide)
theorem fT38 {A A' : mA} (h : FrT A A') : ∀ k, 38 ≤ k → A' k = A k := Fr.hi h.1 (by decide)
theorem hi2 {A B C : mA} (h1 : ∀ k, 38 ≤ k → B k = A k) (h2 : ∀ k, 38 ≤ k → C k = B k) : ∀ k, 38 ≤ k → C k = A k := fun k hk => (h2 k hk).trans (h1 k hk)
theorem lo2 {A B C : mA} (h1 : ∀ k, k < 38 → B k = A k) (h2 : ∀ k, k < 38 → C k = B k) : ∀ k, k < 38 → C k = A k := fun k hk => (h2 k hk).trans (h1 k hk)
set_option maxRecDepth 100000 in
set_option maxHeartbeats 4000000 in
theorem cst_loop {pv : Int32} {mile : Int32} : ∀ (k m : Nat) (a : Int32) (A : mA), m + k = 100 → CE E A S T r kd nr → (∀ A', FrT A A' → Ph (some (.int (nI (stF (farF S r kd nr) (bmF S r kd nr) mile k a m)))) A' L) → qG E mm_X6_stays (d + 4) 47 [(4, .int (nI m)), (3, .int a), (0, .ref 0), (1, .int pv), (2, .int mile)] [] A L Ph := by
  intro k
  induction k with
  | zero =>
    intro m a A hi hc h
    have hE := hc.1
    have hi : m = 100 := by omega
    subst hi
    refine r_iload dX6_stays_47 rfl ?_
    refine r_bipush (v := 100) dX6_stays_49 rfl ?_
    refine r_icmp_ge (tgt := 81) dX6_stays_51 (by decide) (fun _ => ?_) (fun hqz => absurd (nI_le (Nat.le_refl 100) (by decide)) hqz)
    refine r_iload dX6_stays_81 rfl ?_
    refine r_ireturn dX6_stays_83 rfl rfl ?_
    exact h A FrT.rf
  | succ k ih =>
    intro m a A hi hc h
    have hE := hc.1
    rw [stF] at h
    refine r_iload dX6_stays_47 rfl ?_
    refine r_bipush (v := 100) dX6_stays_49 rfl ?_
    refine r_icmp_ge (tgt := 81) dX6_stays_51 (by decide) (fun hqz => absurd hqz (nI_ge (show m < 100 by omega) (by decide))) (fun _ => ?_)
    refine r_aload_n dX6_stays_54 rfl ?_
    refine r_getR dX6_stays_55 fl_X6_38 (ly_0 hE) rfl ?_
    refine r_iload_n dX6_stays_58 rfl ?_
    refine r_callV1 dX6_stays_59 lk_X6_138 (ly_5 hE) rfl (Nat.le_of_ble_eq_true rfl) (sp_X4_far hc (fun A1 f1 => ?_))
    refine r_iload_n dX6_stays_62 rfl ?_
    refine r_icmp_le (tgt := 81) dX6_stays_63 (by decide) (fun b63 => ?_) (fun b63 => ?_)
    · refine r_iload dX6_stays_81 rfl ?_
      refine r_ireturn dX6_stays_83 rfl rfl ?_
      rw [if_pos b63] at h
      exact h A1 f1
    · refine r_aload_n dX6_stays_66 rfl ?_
      refine r_getR dX6_stays_67 fl_X6_38 (ly_0 hE) rfl ?_
      refine r_iload_n dX6_stays_70 rfl ?_
      refine r_callV1 dX6_stays_71 lk_X6_159 (ly_5 hE) rfl (Nat.le_of_ble_eq_true rfl) (sp_X4_cooled (hc.fr f1) (fun A2 f2 => ?_))
      refine r_topi (fun v74 e74 => ?_)
      refine r_istore_n (loc' := [(3, .int v74), (4, .int (nI m)), (0, .ref 0), (1, .int pv), (2, .int mile)]) dX6_stays_74 (by decide) rfl ?_
      refine r_iinc (v := (nI (m + 1))) (loc' := [(4, .int (nI (m + 1))), (3, .int v74), (0, .ref 0), (1, .int pv), (2, .int mile)]) dX6_stays_75 rfl ((nI_succ _).symm) (by decide) rfl ?_
      refine r_goto (tgt := 47) dX6_stays_78 (by decide) ?_
      refine qG.pick [0, 1, 2, 3, 4] rfl ?_
      rw [if_neg b63] at h
      subst e74
      exact ih (m + 1) _ A2 (by omega) ((hc.fr f1).fr f2) (fun A3 f3 => h A3 ((f1.tr f2).tr f3))
set_option maxRecDepth 100000 in
set_option maxHeartbeats 4000000 in
theorem mst_loop {pv : Int32} {mile : Int32} : ∀ (k m : Nat) (a : Int32) (A : mA), m + k = 100 → ME E A S T r kd nr → (∀ A', Fr [46] A A' → Ph (some (.int (nI (stF (farF S r kd nr) (bmF S r kd nr) mile k a m)))) A' L) → qG E mm_X7_stays (d + 5) 35 [(4, .int (nI m)), (3, .int a), (0, .ref 38), (1, .int pv), (2, .int mile)] [] A L Ph := by
  intro k
  induction k with
  | zero =>
    intro m a A hi hm h
    have hE := hm.1
    have hi : m = 100 := by omega
    subst hi
    refine r_iload dX7_stays_35 rfl ?_
    refine r_bipush (v := 100) dX7_stays_37 rfl ?_
    refine r_icmp_ge (tgt := 63) dX7_stays_39 (by decide) (fun _ => ?_) (fun hqz => absurd (nI_le (Nat.le_refl 100) (by decide)) hqz)
    refine r_iload dX7_stays_63 rfl ?_
    refine r_ireturn dX7_stays_65 rfl rfl ?_
    exact h A Fr.rf
  | succ k ih =>
    intro m a A hi hm h
    have hE := hm.1
    rw [stF] at h
    refine r_iload dX7_stays_35 rfl ?_
    refine r_bipush (v := 100) dX7_stays_37 rfl ?_
    refine r_icmp_ge (tgt := 63) dX7_stays_39 (by decide) (fun hqz => absurd hqz (nI_ge (show m < 100 by omega) (by decide))) (fun _ => ?_)
    refine r_aload_n dX7_stays_42 rfl ?_
    refine r_iload_n dX7_stays_43 rfl ?_
    refine r_callV1 dX7_stays_44 lk_X7_113 (ly_38 hE) rfl (Nat.le_of_ble_eq_true rfl) (sp_X7_far hm (fun A1 f1 => ?_))
    refine r_iload_n dX7_stays_47 rfl ?_
    refine r_icmp_le (tgt := 63) dX7_stays_48 (by decide) (fun b48 => ?_) (fun b48 => ?_)
    · refine r_iload dX7_stays_63 rfl ?_
      refine r_ireturn dX7_stays_65 rfl rfl ?_
      rw [if_pos b48] at h
      exact h A1 f1
    · refine r_aload_n dX7_stays_51 rfl ?_
      refine r_iload_n dX7_stays_52 rfl ?_
      refine r_callV1 dX7_stays_53 lk_X7_215 (ly_38 hE) rfl (Nat.le_of_ble_eq_true rfl) (sp_X7_behindMinute (hm.f46 f1) (fun A2 f2 => ?_))
      refine r_topi (fun v56 e56 => ?_)
      refine r_istore_n (loc' := [(3, .int v56), (4, .int (nI m)), (0, .ref 38), (1, .int pv), (2, .int mile)]) dX7_stays_56 (by decide) rfl ?_
      refine r_iinc (v := (nI (m + 1))) (loc' := [(4, .int (nI (m + 1))), (3, .int v56), (0, .ref 38), (1, .int pv), (2, .int mile)]) dX7_stays_57 rfl ((nI_succ _).symm) (by decide) rfl ?_
      refine r_goto (tgt := 35) dX7_stays_60 (by decide) ?_
      refine qG.pick [0, 1, 2, 3, 4] rfl ?_
      rw [if_neg b48] at h
      subst e56
      exact ih (m + 1) _ A2 (by omega) ((hm.f46 f1).f46 f2) (fun A3 f3 => h A3 ((f1.tr f2).tr f3))
set_option maxRecDepth 100000 in
set_option maxHeartbeats 4000000 in
theorem op_stays (hE : hM E) (hW : WfS S T n z) (pv mv : Int32) : OpOK E (d + 5) mm_X6_stays mm_X7_stays [.int pv, .int mv] S T n z := by
  have hEc := hE.c
  have hN := hW.2.2.2.2.1
  have hn := hN.1
  have h60 := hN.2.1
  by_cases hb : (∃ p, p < n ∧ pv = nI p) ∧ ∃ m, m < 40 ∧ mv = nI m
  · obtain ⟨⟨p, hp, rfl⟩, ⟨m, hm0, rfl⟩⟩ := hb
    refine ⟨.int (nI (stF (farP S p) (bmP S p) (nI m) 100 (anP S p) 0)), S, T, n, z, ⟨_, rfl⟩, hW, fun A L Ph hR hk => ?_, fun A L Ph hR hk => ?_⟩
    · skip
      refine qC.enter (by decide) (Nat.le_of_ble_eq_true rfl) ?_
      refine r_aload_n dX6_stays_0 rfl ?_
      refine r_getR dX6_stays_1 fl_X6_10 (ly_0 hEc) rfl ?_
      refine r_iload_n dX6_stays_4 rfl ?_
      refine r_callV1 dX6_stays_5 lk_X6_125 (ly_1 hEc) rfl (Nat.le_of_ble_eq_true rfl) (has_t hEc hn (hR.1.2.2.1.trans h60) hp ?_)
      refine r_if_eq (tgt := 20) dX6_stays_8 (by decide) (fun hqz => absurd hqz (by decide)) (fun _ => ?_)
      refine r_iload_n dX6_stays_11 rfl ?_
      refine r_bipush (v := 40) dX6_stays_12 rfl ?_
      refine r_callS2 dX6_stays_14 lk_X6_100 (Nat.le_of_ble_eq_true rfl) (win_t (lim := 40) rfl (by decide) hm0 ?_)
      refine r_if_ne (tgt := 23) dX6_stays_17 (by decide) (fun _ => ?_) (fun hqz => absurd hqz (by decide))
      refine r_aload_n dX6_stays_23 rfl ?_
      refine r_getR dX6_stays_24 fl_X6_38 (ly_0 hEc) rfl ?_
      refine r_aload_n dX6_stays_27 rfl ?_
      refine r_getR dX6_stays_28 fl_X6_10 (ly_0 hEc) rfl ?_
      refine r_iload_n dX6_stays_31 rfl ?_
      refine r_callV2 dX6_stays_32 lk_X6_128 (ly_5 hEc) rfl (Nat.le_of_ble_eq_true rfl) (co_of hEc hW hR hp (fun A1 f1 hc hR1 => ?_))
      refine r_aload_n dX6_stays_35 rfl ?_
      refine r_getR dX6_stays_36 fl_X6_10 (ly_0 hEc) rfl ?_
      refine r_iload_n dX6_stays_39 rfl ?_
      refine r_callV1 dX6_stays_40 lk_X6_132 (ly_1 hEc) rfl (Nat.le_of_ble_eq_true rfl) (co_an hEc hW hR1 hp ?_)
      refine r_topi (fun v43 e43 => ?_)
      refine r_istore_n (loc' := [(3, .int v43), (0, .ref 0), (1, .int (nI p)), (2, .int (nI m))]) dX6_stays_43 (by decide) rfl ?_
      refine r_iconst (v := 0) dX6_stays_44 rfl ?_
      refine r_istore (loc' := [(4, .int 0), (3, .int v43), (0, .ref 0), (1, .int (nI p)), (2, .int (nI m))]) dX6_stays_45 (by decide) rfl ?_
      subst e43
      exact cst_loop 100 0 _ A1 rfl hc (fun A2 f2 => hk A2 L (hR1.fr f2.c) (hi2 (f526 f1) (fT38 f2)))
    · skip
      refine qC.enter (by decide) (Nat.le_of_ble_eq_true rfl) ?_
      refine r_aload_n dX7_stays_0 rfl ?_
      refine r_iload_n dX7_stays_1 rfl ?_
      refine r_callV1 dX7_stays_2 lk_X7_82 (ly_38 hE) rfl (Nat.le_of_ble_eq_true rfl) (isP_t hE hn (by rw [hR.1]; exact h60) hp ?_)
      refine r_if_eq (tgt := 18) dX7_stays_5 (by decide) (fun hqz => absurd hqz (by decide)) (fun _ => ?_)
      refine r_iload_n dX7_stays_8 rfl ?_
      refine r_iconst (v := 0) dX7_stays_9 rfl ?_
      refine r_bipush (v := 39) dX7_stays_10 rfl ?_
      refine r_callS3 dX7_stays_12 lk_X7_78 (Nat.le_of_ble_eq_true rfl) (in_t (lim := 40) rfl rfl (by decide) hm0 ?_)
      refine r_if_ne (tgt := 21) dX7_stays_15 (by decide) (fun _ => ?_) (fun hqz => absurd hqz (by decide))
      refine r_aload_n dX7_stays_21 rfl ?_
      refine r_iload_n dX7_stays_22 rfl ?_
      refine r_callV1 dX7_stays_23 lk_X7_97 (ly_38 hE) rfl (Nat.le_of_ble_eq_true rfl) (mo_take hE hW hR hp (fun A1 f1 fm hm => ?_))
      refine r_aload_n dX7_stays_26 rfl ?_
      refine r_iload_n dX7_stays_27 rfl ?_
      refine r_callV1 dX7_stays_28 lk_X7_101 (ly_38 hE) rfl (Nat.le_of_ble_eq_true rfl) (mo_an hE hW hm.rm hp ?_)
      refine r_topi (fun v31 e31 => ?_)
      refine r_istore_n (loc' := [(3, .int v31), (0, .ref 38), (1, .int (nI p)), (2, .int (nI m))]) dX7_stays_31 (by decide) rfl ?_
      refine r_iconst (v := 0) dX7_stays_32 rfl ?_
      refine r_istore (loc' := [(4, .int 0), (3, .int v31), (0, .ref 38), (1, .int (nI p)), (2, .int (nI m))]) dX7_stays_33 (by decide) rfl ?_
      subst e31
      exact mst_loop 100 0 _ A1 rfl hm (fun A2 f2 => hk A2 L (hm.f46 f2).rm (fm.tr (fm46 f2)).lo)
  · refine ⟨.int (-2), S, T, n, z, ⟨_, rfl⟩, hW, fun A L Ph hR hk => ?_, fun A L Ph hR hk => ?_⟩
    · have K := hk A L hR (fun _ _ => rfl)
      refine qC.enter (by decide) (Nat.le_of_ble_eq_true rfl) ?_
      refine r_aload_n dX6_stays_0 rfl ?_
      refine r_getR dX6_stays_1 fl_X6_10 (ly_0 hEc) rfl ?_
      refine r_iload_n dX6_stays_4 rfl ?_
      refine r_callV1 dX6_stays_5 lk_X6_125 (ly_1 hEc) rfl (Nat.le_of_ble_eq_true rfl) (sp_X2_has hEc n hn (hR.1.2.2.1.trans h60) (fun p hp ep => ?_) (fun _ => ?_))
      · refine r_if_eq (tgt := 20) dX6_stays_8 (by decide) (fun hqz => absurd hqz (by decide)) (fun _ => ?_)
        refine r_iload_n dX6_stays_11 rfl ?_
        refine r_bipush (v := 40) dX6_stays_12 rfl ?_
        refine r_callS2 dX6_stays_14 lk_X6_100 (Nat.le_of_ble_eq_true rfl) (win_f 40 rfl (by decide) (fun m hm0 em => hb ⟨⟨p, hp, ep⟩, ⟨m, hm0, em⟩⟩) ?_)
        refine r_if_ne (tgt := 23) dX6_stays_17 (by decide) (fun hqz => absurd (by decide) hqz) (fun _ => ?_)
        refine r_bipush (v := (-2)) dX6_stays_20 rfl ?_
        refine r_ireturn dX6_stays_22 rfl rfl ?_
        exact K
      · refine r_if_eq (tgt := 20) dX6_stays_8 (by decide) (fun _ => ?_) (fun hqz => absurd (by decide) hqz)
        refine r_bipush (v := (-2)) dX6_stays_20 rfl ?_
        refine r_ireturn dX6_stays_22 rfl rfl ?_
        exact K
    · have K := hk A L hR (fun _ _ => rfl)
      refine qC.enter (by decide) (Nat.le_of_ble_eq_true rfl) ?_
      refine r_aload_n dX7_stays_0 rfl ?_
      refine r_iload_n dX7_stays_1 rfl ?_
      refine r_callV1 dX7_stays_2 lk_X7_82 (ly_38 hE) rfl (Nat.le_of_ble_eq_true rfl) (sp_X7_isPair hE n hn (by rw [hR.1]; exact h60) (fun p hp ep => ?_) (fun _ => ?_))
      · refine r_if_eq (tgt := 18) dX7_stays_5 (by decide) (fun hqz => absurd hqz (by decide)) (fun _ => ?_)
        refine r_iload_n dX7_stays_8 rfl ?_
        refine r_iconst (v := 0) dX7_stays_9 rfl ?_
        refine r_bipush (v := 39) dX7_stays_10 rfl ?_
        refine r_callS3 dX7_stays_12 lk_X7_78 (Nat.le_of_ble_eq_true rfl) (in_f 40 rfl rfl (by decide) (fun m hm0 em => hb ⟨⟨p, hp, ep⟩, ⟨m, hm0, em⟩⟩) ?_)
        refine r_if_ne (tgt := 21) dX7_stays_15 (by decide) (fun hqz => absurd (by decide) hqz) (fun _ => ?_)
        refine r_bipush (v := (-2)) dX7_stays_18 rfl ?_
        refine r_ireturn dX7_stays_20 rfl rfl ?_
        exact K
      · refine r_if_eq (tgt := 18) dX7_stays_5 (by decide) (fun _ => ?_) (fun hqz => absurd (by decide) hqz)
        refine r_bipush (v := (-2)) dX7_stays_18 rfl ?_
        refine r_ireturn dX7_stays_20 rfl rfl ?_
        exact K
set_option maxRecDepth 100000 in
set_option maxHeartbeats 4000000 in
theorem op_drawn (hE : hM E) (hW : WfS S T n z) (sv pv mv : Int32) : OpOK E (d + 7) mm_X6_drawn mm_X7_drawn [.int sv, .int pv, .int mv] S T n z := by
  have hEc := hE.c
  have hN := hW.2.2.2.2.1
  have hn := hN.1
  have h60 := hN.2.1
  by_cases hb : (∃ p, p < n ∧ pv = nI p) ∧ ∃ m, m < 100 ∧ mv = nI m
  · obtain ⟨⟨p, hp, rfl⟩, ⟨m, hm0, rfl⟩⟩ := hb
    refine ⟨.int (drF (farP S p) (bwP S p) m sv (anP S p)), S, T, n, z, ⟨_, rfl⟩, hW, fun A L Ph hR hk => ?_, fun A L Ph hR hk => ?_⟩
    · skip
      refine qC.enter (by decide) (Nat.le_of_ble_eq_true rfl) ?_
      refine r_aload_n dX6_drawn_0 rfl ?_
      refine r_getR dX6_drawn_1 fl_X6_10 (ly_0 hEc) rfl ?_
      refine r_iload_n dX6_drawn_4 rfl ?_
      refine r_callV1 dX6_drawn_5 lk_X6_125 (ly_1 hEc) rfl (Nat.le_of_ble_eq_true rfl) (has_t hEc hn (hR.1.2.2.1.trans h60) hp ?_)
      refine r_if_eq (tgt := 20) dX6_drawn_8 (by decide) (fun hqz => absurd hqz (by decide)) (fun _ => ?_)
      refine r_iload_n dX6_drawn_11 rfl ?_
      refine r_bipush (v := 100) dX6_drawn_12 rfl ?_
      refine r_callS2 dX6_drawn_14 lk_X6_100 (Nat.le_of_ble_eq_true rfl) (win_t (lim := 100) rfl (by decide) hm0 ?_)
      refine r_if_ne (tgt := 23) dX6_drawn_17 (by decide) (fun _ => ?_) (fun hqz => absurd hqz (by decide))
      refine r_aload_n dX6_drawn_23 rfl ?_
      refine r_getR dX6_drawn_24 fl_X6_38 (ly_0 hEc) rfl ?_
      refine r_aload_n dX6_drawn_27 rfl ?_
      refine r_getR dX6_drawn_28 fl_X6_10 (ly_0 hEc) rfl ?_
      refine r_iload_n dX6_drawn_31 rfl ?_
      refine r_callV2 dX6_drawn_32 lk_X6_128 (ly_5 hEc) rfl (Nat.le_of_ble_eq_true rfl) (co_of hEc hW hR hp (fun A1 f1 hc hR1 => ?_))
      refine r_aload_n dX6_drawn_35 rfl ?_
      refine r_iload_n dX6_drawn_36 rfl ?_
      refine r_aload_n dX6_drawn_37 rfl ?_
      refine r_getR dX6_drawn_38 fl_X6_10 (ly_0 hEc) rfl ?_
      refine r_iload_n dX6_drawn_41 rfl ?_
      refine r_callV1 dX6_drawn_42 lk_X6_132 (ly_1 hEc) rfl (Nat.le_of_ble_eq_true rfl) (co_an hEc hW hR1 hp ?_)
      refine r_iload_n dX6_drawn_45 rfl ?_
      refine r_callV3 dX6_drawn_46 lk_X6_293 (ly_0 hEc) rfl (Nat.le_of_ble_eq_true rfl) (sp_X6_farDrawn hc hm0 (fun A2 f2 => ?_))
      refine r_ireturn dX6_drawn_49 rfl rfl ?_
      exact hk A2 L (hR1.fr f2.c) (hi2 (f526 f1) (fT38 f2))
    · skip
      refine qC.enter (by decide) (Nat.le_of_ble_eq_true rfl) ?_
      refine r_aload_n dX7_drawn_0 rfl ?_
      refine r_iload_n dX7_drawn_1 rfl ?_
      refine r_callV1 dX7_drawn_2 lk_X7_82 (ly_38 hE) rfl (Nat.le_of_ble_eq_true rfl) (isP_t hE hn (by rw [hR.1]; exact h60) hp ?_)
      refine r_if_eq (tgt := 18) dX7_drawn_5 (by decide) (fun hqz => absurd hqz (by decide)) (fun _ => ?_)
      refine r_iload_n dX7_drawn_8 rfl ?_
      refine r_iconst (v := 0) dX7_drawn_9 rfl ?_
      refine r_bipush (v := 99) dX7_drawn_10 rfl ?_
      refine r_callS3 dX7_drawn_12 lk_X7_78 (Nat.le_of_ble_eq_true rfl) (in_t (lim := 100) rfl rfl (by decide) hm0 ?_)
      refine r_if_ne (tgt := 21) dX7_drawn_15 (by decide) (fun _ => ?_) (fun hqz => absurd hqz (by decide))
      refine r_aload_n dX7_drawn_21 rfl ?_
      refine r_iload_n dX7_drawn_22 rfl ?_
      refine r_callV1 dX7_drawn_23 lk_X7_97 (ly_38 hE) rfl (Nat.le_of_ble_eq_true rfl) (mo_take hE hW hR hp (fun A1 f1 fm hm => ?_))
      refine r_aload_n dX7_drawn_26 rfl ?_
      refine r_iload_n dX7_drawn_27 rfl ?_
      refine r_aload_n dX7_drawn_28 rfl ?_
      refine r_iload_n dX7_drawn_29 rfl ?_
      refine r_callV1 dX7_drawn_30 lk_X7_101 (ly_38 hE) rfl (Nat.le_of_ble_eq_true rfl) (mo_an hE hW hm.rm hp ?_)
      refine r_iload_n dX7_drawn_33 rfl ?_
      refine r_callV3 dX7_drawn_34 lk_X7_275 (ly_38 hE) rfl (Nat.le_of_ble_eq_true rfl) (sp_X7_farBehind hm hm0 (fun A2 f2 => ?_))
      refine r_ireturn dX7_drawn_37 rfl rfl ?_
      exact hk A2 L (hm.f46 f2).rm (fm.tr (fm46 f2)).lo
  · refine ⟨.int (-2), S, T, n, z, ⟨_, rfl⟩, hW, fun A L Ph hR hk => ?_, fun A L Ph hR hk => ?_⟩
    · have K := hk A L hR (fun _ _ => rfl)
      refine qC.enter (by decide) (Nat.le_of_ble_eq_true rfl) ?_
      refine r_aload_n dX6_drawn_0 rfl ?_
      refine r_getR dX6_drawn_1 fl_X6_10 (ly_0 hEc) rfl ?_
      refine r_iload_n dX6_drawn_4 rfl ?_
      refine r_callV1 dX6_drawn_5 lk_X6_125 (ly_1 hEc) rfl (Nat.le_of_ble_eq_true rfl) (sp_X2_has hEc n hn (hR.1.2.2.1.trans h60) (fun p hp ep => ?_) (fun _ => ?_))
      · refine r_if_eq (tgt := 20) dX6_drawn_8 (by decide) (fun hqz => absurd hqz (by decide)) (fun _ => ?_)
        refine r_iload_n dX6_drawn_11 rfl ?_
        refine r_bipush (v := 100) dX6_drawn_12 rfl ?_
        refine r_callS2 dX6_drawn_14 lk_X6_100 (Nat.le_of_ble_eq_true rfl) (win_f 100 rfl (by decide) (fun m hm0 em => hb ⟨⟨p, hp, ep⟩, ⟨m, hm0, em⟩⟩) ?_)
        refine r_if_ne (tgt := 23) dX6_drawn_17 (by decide) (fun hqz => absurd (by decide) hqz) (fun _ => ?_)
        refine r_bipush (v := (-2)) dX6_drawn_20 rfl ?_
        refine r_ireturn dX6_drawn_22 rfl rfl ?_
        exact K
      · refine r_if_eq (tgt := 20) dX6_drawn_8 (by decide) (fun _ => ?_) (fun hqz => absurd (by decide) hqz)
        refine r_bipush (v := (-2)) dX6_drawn_20 rfl ?_
        refine r_ireturn dX6_drawn_22 rfl rfl ?_
        exact K
    · have K := hk A L hR (fun _ _ => rfl)
      refine qC.enter (by decide) (Nat.le_of_ble_eq_true rfl) ?_
      refine r_aload_n dX7_drawn_0 rfl ?_
      refine r_iload_n dX7_drawn_1 rfl ?_
      refine r_callV1 dX7_drawn_2 lk_X7_82 (ly_38 hE) rfl (Nat.le_of_ble_eq_true rfl) (sp_X7_isPair hE n hn (by rw [hR.1]; exact h60) (fun p hp ep => ?_) (fun _ => ?_))
      · refine r_if_eq (tgt := 18) dX7_drawn_5 (by decide) (fun hqz => absurd hqz (by decide)) (fun _ => ?_)
        refine r_iload_n dX7_drawn_8 rfl ?_
        refine r_iconst (v := 0) dX7_drawn_9 rfl ?_
        refine r_bipush (v := 99) dX7_drawn_10 rfl ?_
        refine r_callS3 dX7_drawn_12 lk_X7_78 (Nat.le_of_ble_eq_true rfl) (in_f 100 rfl rfl (by decide) (fun m hm0 em => hb ⟨⟨p, hp, ep⟩, ⟨m, hm0, em⟩⟩) ?_)
        refine r_if_ne (tgt := 21) dX7_drawn_15 (by decide) (fun hqz => absurd (by decide) hqz) (fun _ => ?_)
        refine r_bipush (v := (-2)) dX7_drawn_18 rfl ?_
        refine r_ireturn dX7_drawn_20 rfl rfl ?_
        exact K
      · refine r_if_eq (tgt := 18) dX7_drawn_5 (by decide) (fun _ => ?_) (fun hqz => absurd (by decide) hqz)
        refine r_bipush (v := (-2)) dX7_drawn_18 rfl ?_
        refine r_ireturn dX7_drawn_20 rfl rfl ?_
        exact K
/-- of so many seeds those by which it is k or more -/
def chF (f : Int32 → Int32) (k : Int32) (sv : Int32) : Nat → Nat
  | 0 => 0
  | i + 1 => chF f k sv i + (if f (sv + nI i) < k then 0 else 1)
theorem chF_le (f : Int32 → Int32) (k sv : Int32) : ∀ i, chF f k sv i ≤ i
  | 0 => Nat.le_refl _
  | i + 1 => by
    have := chF_le f k sv i
    simp only [chF]
    split <;> omega
set_option maxRecDepth 100000 in
set_option maxHeartbeats 4000000 in
theorem cch_loop (hE : hC E) (hW : WfS S T n z) (hp : p < n) {sv kv : Int32} {m t : Nat} (hm : m ≤ 20) (hm1 : 1 ≤ m) (ht : t < 2) {F : Int32 → Int32} (hF : F = fun x => drF (farP S p) (bwP S p) 8 x (anP S p)) : ∀ (k i : Nat) (A : mA), i + k = m → RC A S T n z → CE E A S T (rF S) (kdP S p) (nrP S p) → (∀ A', FrT A A' → Ph (some (.long (lN ((if t = 0 then chF F kv sv m else m) / Nat.gcd (chF F kv sv m) m)))) A' L) → qG E mm_X6_chance (d + 5) 63 [(7, .int (nI i)), (6, .int (nI (chF F kv sv i))), (0, .ref 0), (1, .int sv), (2, .int (nI m)), (3, .int (nI p)), (4, .int kv), (5, .int (nI t))] [] A L Ph := by
  have hn := hW.2.2.2.2.1.1
  have h60 := hW.2.2.2.2.1.2.1
  intro k
  induction k with
  | zero =>
    intro i A hi hR hc h
    have hi : i = m := by omega
    subst hi
    have hc20 := chF_le F kv sv i
    refine r_iload dX6_chance_63 rfl ?_
    refine r_iload_n dX6_chance_65 rfl ?_
    refine r_icmp_ge (tgt := 108) dX6_chance_66 (by decide) (fun _ => ?_) (fun hqz => absurd (nI_le (Nat.le_refl _) (by omega)) hqz)
    refine r_iload dX6_chance_108 rfl ?_
    refine r_i2l dX6_chance_110 ?_
    refine r_rwl (y := lN (chF F kv sv i)) (nI_l (by omega)) ?_
    refine r_iload_n dX6_chance_111 rfl ?_
    refine r_i2l dX6_chance_112 ?_
    refine r_rwl (y := lN i) (nI_l (by omega)) ?_
    refine r_iload dX6_chance_113 rfl ?_
    refine r_callS3 dX6_chance_115 lk_X6_242 (Nat.le_of_ble_eq_true rfl) (sp_X6_lowest (by omega) (by omega) hm1 ht ?_)
    refine r_lreturn dX6_chance_118 rfl ?_
    exact h A FrT.rf
  | succ k ih =>
    intro i A hi hR hc h
    refine r_iload dX6_chance_63 rfl ?_
    refine r_iload_n dX6_chance_65 rfl ?_
    refine r_icmp_ge (tgt := 108) dX6_chance_66 (by decide) (fun hqz => absurd hqz (nI_ge (show i < m by omega) (by omega))) (fun _ => ?_)
    refine r_iload dX6_chance_69 rfl ?_
    refine r_aload_n dX6_chance_71 rfl ?_
    refine r_iload_n dX6_chance_72 rfl ?_
    refine r_iload dX6_chance_73 rfl ?_
    refine r_iadd dX6_chance_75 ?_
    refine r_aload_n dX6_chance_76 rfl ?_
    refine r_getR dX6_chance_77 fl_X6_10 (ly_0 hE) rfl ?_
    refine r_iload_n dX6_chance_80 rfl ?_
    refine r_callV1 dX6_chance_81 lk_X6_132 (ly_1 hE) rfl (Nat.le_of_ble_eq_true rfl) (co_an hE hW hR hp ?_)
    refine r_bipush (v := 8) dX6_chance_84 rfl ?_
    refine r_callV3 dX6_chance_86 lk_X6_293 (ly_0 hE) rfl (Nat.le_of_ble_eq_true rfl) (sp_X6_farDrawn (m := 8) hc (by decide) (fun A1 f1 => ?_))
    refine r_rw (y := F (sv + nI i)) (by rw [hF]; rfl) ?_
    refine r_iload dX6_chance_89 rfl ?_
    refine r_icmp_lt (tgt := 98) dX6_chance_91 (by decide) (fun b91 => ?_) (fun b91 => ?_)
    · refine r_iconst (v := 0) dX6_chance_98 rfl ?_
      refine r_iadd dX6_chance_99 ?_
      first | refine r_rw (y := nI (chF F kv sv (i + 1))) (show nI (chF F kv sv i) + nI 0 = _ by rw [nI_add, chF, if_pos b91]) ?_ | refine r_rw (y := nI (chF F kv sv (i + 1))) (show nI (chF F kv sv i) + nI 1 = _ by rw [nI_add, chF, if_neg b91]) ?_
      refine r_istore (loc' := [(6, .int (nI (chF F kv sv (i + 1)))), (7, .int (nI i)), (0, .ref 0), (1, .int sv), (2, .int (nI m)), (3, .int (nI p)), (4, .int kv), (5, .int (nI t))]) dX6_chance_100 (by decide) rfl ?_
      refine r_iinc (v := (nI (i + 1))) (loc' := [(7, .int (nI (i + 1))), (6, .int (nI (chF F kv sv (i + 1)))), (0, .ref 0), (1, .int sv), (2, .int (nI m)), (3, .int (nI p)), (4, .int kv), (5, .int (nI t))]) dX6_chance_102 rfl ((nI_succ _).symm) (by decide) rfl ?_
      refine r_goto (tgt := 63) dX6_chance_105 (by decide) ?_
      refine qG.pick [0, 1, 2, 3, 4, 5, 6, 7] rfl ?_
      exact ih (i + 1) A1 (by omega) (hR.fr f1.c) (hc.fr f1) (fun A2 f2 => h A2 (f1.tr f2))
    · refine r_iconst (v := 1) dX6_chance_94 rfl ?_
      refine r_goto (tgt := 99) dX6_chance_95 (by decide) ?_
      refine r_iadd dX6_chance_99 ?_
      first | refine r_rw (y := nI (chF F kv sv (i + 1))) (show nI (chF F kv sv i) + nI 0 = _ by rw [nI_add, chF, if_pos b91]) ?_ | refine r_rw (y := nI (chF F kv sv (i + 1))) (show nI (chF F kv sv i) + nI 1 = _ by rw [nI_add, chF, if_neg b91]) ?_
      refine r_istore (loc' := [(6, .int (nI (chF F kv sv (i + 1)))), (7, .int (nI i)), (0, .ref 0), (1, .int sv), (2, .int (nI m)), (3, .int (nI p)), (4, .int kv), (5, .int (nI t))]) dX6_chance_100 (by decide) rfl ?_
      refine r_iinc (v := (nI (i + 1))) (loc' := [(7, .int (nI (i + 1))), (6, .int (nI (chF F kv sv (i + 1)))), (0, .ref 0), (1, .int sv), (2, .int (nI m)), (3, .int (nI p)), (4, .int kv), (5, .int (nI t))]) dX6_chance_102 rfl ((nI_succ _).symm) (by decide) rfl ?_
      refine r_goto (tgt := 63) dX6_chance_105 (by decide) ?_
      refine qG.pick [0, 1, 2, 3, 4, 5, 6, 7] rfl ?_
      exact ih (i + 1) A1 (by omega) (hR.fr f1.c) (hc.fr f1) (fun A2 f2 => h A2 (f1.tr f2))
set_option maxRecDepth 100000 in
set_option maxHeartbeats 4000000 in
theorem mch_loop (hE : hM E) (hW : WfS S T n z) (hp : p < n) {sv kv : Int32} {m t : Nat} (hm0 : m ≤ 20) (hm1 : 1 ≤ m) (ht : t < 2) {F : Int32 → Int32} (hF : F = fun x => drF (farP S p) (bwP S p) 8 x (anP S p)) : ∀ (k i : Nat) (A : mA), i + k = m → ME E A S T (rF S) (kdP S p) (nrP S p) → (∀ A', Fr [46] A A' → Ph (some (.long (lN ((if t = 0 then chF F kv sv m else m) / Nat.gcd (chF F kv sv m) m)))) A' L) → qG E mm_X7_chance (d + 6) 54 [(8, .int (nI i)), (6, .long (lN (chF F kv sv i))), (0, .ref 38), (1, .int sv), (2, .int (nI m)), (3, .int (nI p)), (4, .int kv), (5, .int (nI t))] [] A L Ph := by
  intro k
  induction k with
  | zero =>
    intro i A hi hm h
    have hi : i = m := by omega
    subst hi
    have hc20 := chF_le F kv sv i
    have g1 : 1 ≤ Nat.gcd i (chF F kv sv i) := Nat.gcd_pos_of_pos_left _ hm1
    have g2 : Nat.gcd i (chF F kv sv i) < 2 ^ 63 := Nat.lt_of_le_of_lt (Nat.le_of_dvd hm1 (Nat.gcd_dvd_left i _)) (by omega)
    have K := h A Fr.rf
    rw [Nat.gcd_comm] at K
    rcases (show t = 0 ∨ t = 1 by omega) with rfl | rfl
    · refine r_iload dX7_chance_54 rfl ?_
      refine r_iload_n dX7_chance_56 rfl ?_
      refine r_icmp_ge (tgt := 96) dX7_chance_57 (by decide) (fun _ => ?_) (fun hqz => absurd (nI_le (Nat.le_refl _) (by omega)) hqz)
      refine r_iload_n dX7_chance_96 rfl ?_
      refine r_i2l dX7_chance_97 ?_
      refine r_rwl (y := lN i) (nI_l (by omega)) ?_
      refine r_lload dX7_chance_98 rfl ?_
      refine r_callS2 dX7_chance_100 lk_X7_250 (Nat.le_of_ble_eq_true rfl) (sp_X7_gcd (by omega) (by omega) ?_)
      refine r_lstore (loc' := [(8, .long (lN (Nat.gcd i (chF F kv sv i)))), (6, .long (lN (chF F kv sv i))), (0, .ref 38), (1, .int sv), (2, .int (nI i)), (3, .int (nI p)), (4, .int kv), (5, .int (nI 0))]) dX7_chance_103 (by decide) rfl ?_
      refine r_iload dX7_chance_105 rfl ?_
      refine r_if_ne (tgt := 118) dX7_chance_107 (by decide) (fun hqz => absurd (by decide) hqz) (fun _ => ?_)
      refine r_lload dX7_chance_110 rfl ?_
      refine r_lload dX7_chance_112 rfl ?_
      refine r_ldiv dX7_chance_114 (fun q => by have := (pk_lEQ g2 (by decide : 0 < 2 ^ 63)).mp q; omega) ?_
      refine r_rwl (y := lN (chF F kv sv i / Nat.gcd i (chF F kv sv i))) (pk_lDiv (by omega) (by omega) g2) ?_
      refine r_goto (tgt := 123) dX7_chance_115 (by decide) ?_
      refine r_lreturn dX7_chance_123 rfl ?_
      exact K
    · refine r_iload dX7_chance_54 rfl ?_
      refine r_iload_n dX7_chance_56 rfl ?_
      refine r_icmp_ge (tgt := 96) dX7_chance_57 (by decide) (fun _ => ?_) (fun hqz => absurd (nI_le (Nat.le_refl _) (by omega)) hqz)
      refine r_iload_n dX7_chance_96 rfl ?_
      refine r_i2l dX7_chance_97 ?_
      refine r_rwl (y := lN i) (nI_l (by omega)) ?_
      refine r_lload dX7_chance_98 rfl ?_
      refine r_callS2 dX7_chance_100 lk_X7_250 (Nat.le_of_ble_eq_true rfl) (sp_X7_gcd (by omega) (by omega) ?_)
      refine r_lstore (loc' := [(8, .long (lN (Nat.gcd i (chF F kv sv i)))), (6, .long (lN (chF F kv sv i))), (0, .ref 38), (1, .int sv), (2, .int (nI i)), (3, .int (nI p)), (4, .int kv), (5, .int (nI 1))]) dX7_chance_103 (by decide) rfl ?_
      refine r_iload dX7_chance_105 rfl ?_
      refine r_if_ne (tgt := 118) dX7_chance_107 (by decide) (fun _ => ?_) (fun hqz => absurd hqz (by decide))
      refine r_iload_n dX7_chance_118 rfl ?_
      refine r_i2l dX7_chance_119 ?_
      refine r_rwl (y := lN i) (nI_l (by omega)) ?_
      refine r_lload dX7_chance_120 rfl ?_
      refine r_ldiv dX7_chance_122 (fun q => by have := (pk_lEQ g2 (by decide : 0 < 2 ^ 63)).mp q; omega) ?_
      refine r_rwl (y := lN (i / Nat.gcd i (chF F kv sv i))) (pk_lDiv (by omega) (by omega) g2) ?_
      refine r_lreturn dX7_chance_123 rfl ?_
      exact K
  | succ k ih =>
    intro i A hi hm h
    refine r_iload dX7_chance_54 rfl ?_
    refine r_iload_n dX7_chance_56 rfl ?_
    refine r_icmp_ge (tgt := 96) dX7_chance_57 (by decide) (fun hqz => absurd hqz (nI_ge (show i < m by omega) (by omega))) (fun _ => ?_)
    refine r_lload dX7_chance_60 rfl ?_
    refine r_aload_n dX7_chance_62 rfl ?_
    refine r_iload_n dX7_chance_63 rfl ?_
    refine r_iload dX7_chance_64 rfl ?_
    refine r_iadd dX7_chance_66 ?_
    refine r_aload_n dX7_chance_67 rfl ?_
    refine r_iload_n dX7_chance_68 rfl ?_
    refine r_callV1 dX7_chance_69 lk_X7_101 (ly_38 hE) rfl (Nat.le_of_ble_eq_true rfl) (mo_an hE hW hm.rm hp ?_)
    refine r_bipush (v := 8) dX7_chance_72 rfl ?_
    refine r_callV3 dX7_chance_74 lk_X7_275 (ly_38 hE) rfl (Nat.le_of_ble_eq_true rfl) (sp_X7_farBehind (m := 8) hm (by decide) (fun A1 f1 => ?_))
    refine r_rw (y := F (sv + nI i)) (by rw [hF]; rfl) ?_
    refine r_iload dX7_chance_77 rfl ?_
    refine r_icmp_lt (tgt := 86) dX7_chance_79 (by decide) (fun b79 => ?_) (fun b79 => ?_)
    · refine r_lconst (v := 0) dX7_chance_86 rfl ?_
      refine r_ladd dX7_chance_87 ?_
      first | refine r_rwl (y := lN (chF F kv sv (i + 1))) (show lN (chF F kv sv i) + lN 0 = _ by rw [lN_add, chF, if_pos b79]) ?_ | refine r_rwl (y := lN (chF F kv sv (i + 1))) (show lN (chF F kv sv i) + lN 1 = _ by rw [lN_add, chF, if_neg b79]) ?_
      refine r_lstore (loc' := [(6, .long (lN (chF F kv sv (i + 1)))), (8, .int (nI i)), (0, .ref 38), (1, .int sv), (2, .int (nI m)), (3, .int (nI p)), (4, .int kv), (5, .int (nI t))]) dX7_chance_88 (by decide) rfl ?_
      refine r_iinc (v := (nI (i + 1))) (loc' := [(8, .int (nI (i + 1))), (6, .long (lN (chF F kv sv (i + 1)))), (0, .ref 38), (1, .int sv), (2, .int (nI m)), (3, .int (nI p)), (4, .int kv), (5, .int (nI t))]) dX7_chance_90 rfl ((nI_succ _).symm) (by decide) rfl ?_
      refine r_goto (tgt := 54) dX7_chance_93 (by decide) ?_
      refine qG.pick [0, 1, 2, 3, 4, 5, 6, 7] rfl ?_
      exact ih (i + 1) A1 (by omega) (hm.f46 f1) (fun A2 f2 => h A2 (f1.tr f2))
    · refine r_lconst (v := 1) dX7_chance_82 rfl ?_
      refine r_goto (tgt := 87) dX7_chance_83 (by decide) ?_
      refine r_ladd dX7_chance_87 ?_
      first | refine r_rwl (y := lN (chF F kv sv (i + 1))) (show lN (chF F kv sv i) + lN 0 = _ by rw [lN_add, chF, if_pos b79]) ?_ | refine r_rwl (y := lN (chF F kv sv (i + 1))) (show lN (chF F kv sv i) + lN 1 = _ by rw [lN_add, chF, if_neg b79]) ?_
      refine r_lstore (loc' := [(6, .long (lN (chF F kv sv (i + 1)))), (8, .int (nI i)), (0, .ref 38), (1, .int sv), (2, .int (nI m)), (3, .int (nI p)), (4, .int kv), (5, .int (nI t))]) dX7_chance_88 (by decide) rfl ?_
      refine r_iinc (v := (nI (i + 1))) (loc' := [(8, .int (nI (i + 1))), (6, .long (lN (chF F kv sv (i + 1)))), (0, .ref 38), (1, .int sv), (2, .int (nI m)), (3, .int (nI p)), (4, .int kv), (5, .int (nI t))]) dX7_chance_90 rfl ((nI_succ _).symm) (by decide) rfl ?_
      refine r_goto (tgt := 54) dX7_chance_93 (by decide) ?_
      refine qG.pick [0, 1, 2, 3, 4, 5, 6, 7] rfl ?_
      exact ih (i + 1) A1 (by omega) (hm.f46 f1) (fun A2 f2 => h A2 (f1.tr f2))
theorem m20n {m : Nat} (h1 : 1 ≤ m) (h2 : m ≤ 20) : ¬ (nI m < 1 ∨ (20 : Int32) < nI m) := by
  have e1 := nI_toInt (n := m) (by omega)
  have e2 : (1 : Int32).toInt = 1 := by decide
  have e3 : (20 : Int32).toInt = 20 := by decide
  simp only [i_lt, e1, e2, e3]
  omega
theorem m20 {x : Int32} (h1 : (1 : Int32) ≤ x) (h2 : x ≤ 20) : ∃ m, 1 ≤ m ∧ m ≤ 20 ∧ x = nI m := by
  have e1 : (1 : Int32).toInt = 1 := by decide
  have e0 : (0 : Int32).toInt = 0 := by decide
  have hx : ¬ x < 0 := by rw [i_lt]; rw [i_le] at h1; omega
  obtain ⟨j, hj, e⟩ := nI_of2 (M := 20) (n := 20) (by decide) hx h2
  refine ⟨j, ?_, hj, e⟩
  subst e
  rw [i_le, e1, nI_toInt (by omega)] at h1
  omega
set_option maxRecDepth 100000 in
set_option maxHeartbeats 4000000 in
theorem op_chance (hE : hM E) (hW : WfS S T n z) (sv mv pv kv tv : Int32) : OpOK E (d + 8) mm_X6_chance mm_X7_chance [.int sv, .int mv, .int pv, .int kv, .int tv] S T n z := by
  have hEc := hE.c
  have hN := hW.2.2.2.2.1
  have hn := hN.1
  have h60 := hN.2.1
  by_cases hb : ((1 : Int32) ≤ mv ∧ mv ≤ 20) ∧ (∃ p, p < n ∧ pv = nI p) ∧ (∃ k, k < 41 ∧ kv = nI k) ∧ ∃ t, t < 2 ∧ tv = nI t
  · obtain ⟨⟨q1, q2⟩, ⟨p, hp, rfl⟩, ⟨k, hk0, rfl⟩, ⟨t, ht, rfl⟩⟩ := hb
    obtain ⟨m, m1, m2, rfl⟩ := m20 q1 q2
    refine ⟨.long (lN ((if t = 0 then chF (fun x => drF (farP S p) (bwP S p) 8 x (anP S p)) (nI k) sv m else m) / Nat.gcd (chF (fun x => drF (farP S p) (bwP S p) 8 x (anP S p)) (nI k) sv m) m)), S, T, n, z, ⟨_, rfl⟩, hW, fun A L Ph hR hk => ?_, fun A L Ph hR hk => ?_⟩
    · skip
      refine qC.enter (by decide) (Nat.le_of_ble_eq_true rfl) ?_
      refine r_aload_n dX6_chance_0 rfl ?_
      refine r_getR dX6_chance_1 fl_X6_10 (ly_0 hEc) rfl ?_
      refine r_iload_n dX6_chance_4 rfl ?_
      refine r_callV1 dX6_chance_5 lk_X6_125 (ly_1 hEc) rfl (Nat.le_of_ble_eq_true rfl) (has_t hEc hn (hR.1.2.2.1.trans h60) hp ?_)
      refine r_if_eq (tgt := 41) dX6_chance_8 (by decide) (fun hqz => absurd hqz (by decide)) (fun _ => ?_)
      refine r_iload_n dX6_chance_11 rfl ?_
      refine r_iconst (v := 1) dX6_chance_12 rfl ?_
      refine r_icmp_lt (tgt := 41) dX6_chance_13 (by decide) (fun hqz => absurd hqz (nI_nlt (show 1 ≤ m from m1) (by omega))) (fun _ => ?_)
      refine r_iload_n dX6_chance_16 rfl ?_
      refine r_bipush (v := 20) dX6_chance_17 rfl ?_
      refine r_icmp_gt (tgt := 41) dX6_chance_19 (by decide) (fun hqz => absurd hqz (nI_nlt (show m ≤ 20 from m2) (by decide))) (fun _ => ?_)
      refine r_iload dX6_chance_22 rfl ?_
      refine r_bipush (v := 41) dX6_chance_24 rfl ?_
      refine r_callS2 dX6_chance_26 lk_X6_100 (Nat.le_of_ble_eq_true rfl) (win_t (lim := 41) rfl (by decide) hk0 ?_)
      refine r_if_eq (tgt := 41) dX6_chance_29 (by decide) (fun hqz => absurd hqz (by decide)) (fun _ => ?_)
      refine r_iload dX6_chance_32 rfl ?_
      refine r_iconst (v := 2) dX6_chance_34 rfl ?_
      refine r_callS2 dX6_chance_35 lk_X6_100 (Nat.le_of_ble_eq_true rfl) (win_t (lim := 2) rfl (by decide) ht ?_)
      refine r_if_ne (tgt := 45) dX6_chance_38 (by decide) (fun _ => ?_) (fun hqz => absurd hqz (by decide))
      refine r_aload_n dX6_chance_45 rfl ?_
      refine r_getR dX6_chance_46 fl_X6_38 (ly_0 hEc) rfl ?_
      refine r_aload_n dX6_chance_49 rfl ?_
      refine r_getR dX6_chance_50 fl_X6_10 (ly_0 hEc) rfl ?_
      refine r_iload_n dX6_chance_53 rfl ?_
      refine r_callV2 dX6_chance_54 lk_X6_128 (ly_5 hEc) rfl (Nat.le_of_ble_eq_true rfl) (co_of hEc hW hR hp (fun A1 f1 hc hR1 => ?_))
      refine r_iconst (v := 0) dX6_chance_57 rfl ?_
      refine r_istore (loc' := [(6, .int 0), (0, .ref 0), (1, .int sv), (2, .int (nI m)), (3, .int (nI p)), (4, .int (nI k)), (5, .int (nI t))]) dX6_chance_58 (by decide) rfl ?_
      refine r_iconst (v := 0) dX6_chance_60 rfl ?_
      refine r_istore (loc' := [(7, .int 0), (6, .int 0), (0, .ref 0), (1, .int sv), (2, .int (nI m)), (3, .int (nI p)), (4, .int (nI k)), (5, .int (nI t))]) dX6_chance_61 (by decide) rfl ?_
      exact cch_loop hEc hW hp m2 m1 ht rfl m 0 A1 (by omega) hR1 hc (fun A2 f2 => hk A2 L (hR1.fr f2.c) (hi2 (f526 f1) (fT38 f2)))
    · skip
      refine qC.enter (by decide) (Nat.le_of_ble_eq_true rfl) ?_
      refine r_iload_n dX7_chance_0 rfl ?_
      refine r_iconst (v := 1) dX7_chance_1 rfl ?_
      refine r_bipush (v := 20) dX7_chance_2 rfl ?_
      refine r_callS3 dX7_chance_4 lk_X7_78 (Nat.le_of_ble_eq_true rfl) (sp_X7_isIn (fun _ _ => ?_) (fun q => absurd q (m20n m1 m2)))
      refine r_if_eq (tgt := 39) dX7_chance_7 (by decide) (fun hqz => absurd hqz (by decide)) (fun _ => ?_)
      refine r_aload_n dX7_chance_10 rfl ?_
      refine r_iload_n dX7_chance_11 rfl ?_
      refine r_callV1 dX7_chance_12 lk_X7_82 (ly_38 hE) rfl (Nat.le_of_ble_eq_true rfl) (isP_t hE hn (by rw [hR.1]; exact h60) hp ?_)
      refine r_if_eq (tgt := 39) dX7_chance_15 (by decide) (fun hqz => absurd hqz (by decide)) (fun _ => ?_)
      refine r_iload dX7_chance_18 rfl ?_
      refine r_iconst (v := 0) dX7_chance_20 rfl ?_
      refine r_bipush (v := 40) dX7_chance_21 rfl ?_
      refine r_callS3 dX7_chance_23 lk_X7_78 (Nat.le_of_ble_eq_true rfl) (in_t (lim := 41) rfl rfl (by decide) hk0 ?_)
      refine r_if_eq (tgt := 39) dX7_chance_26 (by decide) (fun hqz => absurd hqz (by decide)) (fun _ => ?_)
      refine r_iload dX7_chance_29 rfl ?_
      refine r_iconst (v := 0) dX7_chance_31 rfl ?_
      refine r_iconst (v := 1) dX7_chance_32 rfl ?_
      refine r_callS3 dX7_chance_33 lk_X7_78 (Nat.le_of_ble_eq_true rfl) (in_t (lim := 2) rfl rfl (by decide) ht ?_)
      refine r_if_ne (tgt := 43) dX7_chance_36 (by decide) (fun _ => ?_) (fun hqz => absurd hqz (by decide))
      refine r_aload_n dX7_chance_43 rfl ?_
      refine r_iload_n dX7_chance_44 rfl ?_
      refine r_callV1 dX7_chance_45 lk_X7_97 (ly_38 hE) rfl (Nat.le_of_ble_eq_true rfl) (mo_take hE hW hR hp (fun A1 f1 fm hm => ?_))
      refine r_lconst (v := 0) dX7_chance_48 rfl ?_
      refine r_lstore (loc' := [(6, .long 0), (0, .ref 38), (1, .int sv), (2, .int (nI m)), (3, .int (nI p)), (4, .int (nI k)), (5, .int (nI t))]) dX7_chance_49 (by decide) rfl ?_
      refine r_iconst (v := 0) dX7_chance_51 rfl ?_
      refine r_istore (loc' := [(8, .int 0), (6, .long 0), (0, .ref 38), (1, .int sv), (2, .int (nI m)), (3, .int (nI p)), (4, .int (nI k)), (5, .int (nI t))]) dX7_chance_52 (by decide) rfl ?_
      exact mch_loop hE hW hp m2 m1 ht rfl m 0 A1 (by omega) hm (fun A2 f2 => hk A2 L (hm.f46 f2).rm (fm.tr (fm46 f2)).lo)
  · refine ⟨.long (-4611686018427387904), S, T, n, z, ⟨_, rfl⟩, hW, fun A L Ph hR hk => ?_, fun A L Ph hR hk => ?_⟩
    · have K := hk A L hR (fun _ _ => rfl)
      refine qC.enter (by decide) (Nat.le_of_ble_eq_true rfl) ?_
      refine r_aload_n dX6_chance_0 rfl ?_
      refine r_getR dX6_chance_1 fl_X6_10 (ly_0 hEc) rfl ?_
      refine r_iload_n dX6_chance_4 rfl ?_
      refine r_callV1 dX6_chance_5 lk_X6_125 (ly_1 hEc) rfl (Nat.le_of_ble_eq_true rfl) (sp_X2_has hEc n hn (hR.1.2.2.1.trans h60) (fun p hp ep => ?_) (fun _ => ?_))
      · refine r_if_eq (tgt := 41) dX6_chance_8 (by decide) (fun hqz => absurd hqz (by decide)) (fun _ => ?_)
        refine r_iload_n dX6_chance_11 rfl ?_
        refine r_iconst (v := 1) dX6_chance_12 rfl ?_
        refine r_icmp_lt (tgt := 41) dX6_chance_13 (by decide) (fun b13 => ?_) (fun b13 => ?_)
        · refine r_ldc2 dX6_chance_41 kc_X6_196 ?_
          refine r_lreturn dX6_chance_44 rfl ?_
          exact K
        · refine r_iload_n dX6_chance_16 rfl ?_
          refine r_bipush (v := 20) dX6_chance_17 rfl ?_
          refine r_icmp_gt (tgt := 41) dX6_chance_19 (by decide) (fun b19 => ?_) (fun b19 => ?_)
          · refine r_ldc2 dX6_chance_41 kc_X6_196 ?_
            refine r_lreturn dX6_chance_44 rfl ?_
            exact K
          · refine r_iload dX6_chance_22 rfl ?_
            refine r_bipush (v := 41) dX6_chance_24 rfl ?_
            refine r_callS2 dX6_chance_26 lk_X6_100 (Nat.le_of_ble_eq_true rfl) (sp_X6_within 41 rfl (by decide) (fun k hk0 ek => ?_) (fun _ => ?_))
            · refine r_if_eq (tgt := 41) dX6_chance_29 (by decide) (fun hqz => absurd hqz (by decide)) (fun _ => ?_)
              refine r_iload dX6_chance_32 rfl ?_
              refine r_iconst (v := 2) dX6_chance_34 rfl ?_
              refine r_callS2 dX6_chance_35 lk_X6_100 (Nat.le_of_ble_eq_true rfl) (win_f 2 rfl (by decide) (fun t ht et => hb ⟨⟨fa_of_nlt b13, fa_of_nlt b19⟩, ⟨p, hp, ep⟩, ⟨k, hk0, ek⟩, ⟨t, ht, et⟩⟩) ?_)
              refine r_if_ne (tgt := 45) dX6_chance_38 (by decide) (fun hqz => absurd (by decide) hqz) (fun _ => ?_)
              refine r_ldc2 dX6_chance_41 kc_X6_196 ?_
              refine r_lreturn dX6_chance_44 rfl ?_
              exact K
            · refine r_if_eq (tgt := 41) dX6_chance_29 (by decide) (fun _ => ?_) (fun hqz => absurd (by decide) hqz)
              refine r_ldc2 dX6_chance_41 kc_X6_196 ?_
              refine r_lreturn dX6_chance_44 rfl ?_
              exact K
      · refine r_if_eq (tgt := 41) dX6_chance_8 (by decide) (fun _ => ?_) (fun hqz => absurd (by decide) hqz)
        refine r_ldc2 dX6_chance_41 kc_X6_196 ?_
        refine r_lreturn dX6_chance_44 rfl ?_
        exact K
    · have K := hk A L hR (fun _ _ => rfl)
      refine qC.enter (by decide) (Nat.le_of_ble_eq_true rfl) ?_
      refine r_iload_n dX7_chance_0 rfl ?_
      refine r_iconst (v := 1) dX7_chance_1 rfl ?_
      refine r_bipush (v := 20) dX7_chance_2 rfl ?_
      refine r_callS3 dX7_chance_4 lk_X7_78 (Nat.le_of_ble_eq_true rfl) (sp_X7_isIn (fun q1 q2 => ?_) (fun _ => ?_))
      · refine r_if_eq (tgt := 39) dX7_chance_7 (by decide) (fun hqz => absurd hqz (by decide)) (fun _ => ?_)
        refine r_aload_n dX7_chance_10 rfl ?_
        refine r_iload_n dX7_chance_11 rfl ?_
        refine r_callV1 dX7_chance_12 lk_X7_82 (ly_38 hE) rfl (Nat.le_of_ble_eq_true rfl) (sp_X7_isPair hE n hn (by rw [hR.1]; exact h60) (fun p hp ep => ?_) (fun _ => ?_))
        · refine r_if_eq (tgt := 39) dX7_chance_15 (by decide) (fun hqz => absurd hqz (by decide)) (fun _ => ?_)
          refine r_iload dX7_chance_18 rfl ?_
          refine r_iconst (v := 0) dX7_chance_20 rfl ?_
          refine r_bipush (v := 40) dX7_chance_21 rfl ?_
          refine r_callS3 dX7_chance_23 lk_X7_78 (Nat.le_of_ble_eq_true rfl) (sp_isIn0 41 rfl rfl (by decide) (fun k hk0 ek => ?_) (fun _ => ?_))
          · refine r_if_eq (tgt := 39) dX7_chance_26 (by decide) (fun hqz => absurd hqz (by decide)) (fun _ => ?_)
            refine r_iload dX7_chance_29 rfl ?_
            refine r_iconst (v := 0) dX7_chance_31 rfl ?_
            refine r_iconst (v := 1) dX7_chance_32 rfl ?_
            refine r_callS3 dX7_chance_33 lk_X7_78 (Nat.le_of_ble_eq_true rfl) (in_f 2 rfl rfl (by decide) (fun t ht et => hb ⟨⟨q1, q2⟩, ⟨p, hp, ep⟩, ⟨k, hk0, ek⟩, ⟨t, ht, et⟩⟩) ?_)
            refine r_if_ne (tgt := 43) dX7_chance_36 (by decide) (fun hqz => absurd (by decide) hqz) (fun _ => ?_)
            refine r_ldc2 dX7_chance_39 kc_X7_230 ?_
            refine r_lreturn dX7_chance_42 rfl ?_
            exact K
          · refine r_if_eq (tgt := 39) dX7_chance_26 (by decide) (fun _ => ?_) (fun hqz => absurd (by decide) hqz)
            refine r_ldc2 dX7_chance_39 kc_X7_230 ?_
            refine r_lreturn dX7_chance_42 rfl ?_
            exact K
        · refine r_if_eq (tgt := 39) dX7_chance_15 (by decide) (fun _ => ?_) (fun hqz => absurd (by decide) hqz)
          refine r_ldc2 dX7_chance_39 kc_X7_230 ?_
          refine r_lreturn dX7_chance_42 rfl ?_
          exact K
      · refine r_if_eq (tgt := 39) dX7_chance_7 (by decide) (fun _ => ?_) (fun hqz => absurd (by decide) hqz)
        refine r_ldc2 dX7_chance_39 kc_X7_230 ?_
        refine r_lreturn dX7_chance_42 rfl ?_
        exact K
end OPS6
