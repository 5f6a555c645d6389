/-! quiet of the reference -/
section OPS8
variable {E : mE} {d : Nat} {A S : mA} {L : mJ} {Ph : mP} {T n z p r : Nat} {kd nr : Int32}
theorem qS_1 (hW : WfS S T n z) {j : Nat} : qS (qS S j n) 1 n = qS S (j + 1) n := by
  have hn := hW.2.2.2.2.1.1
  show va_up (va_up S 39 _) 39 _ = va_up S 39 _
  rw [up_up]
  congr 1
  rw [show (qS S j n) 39 = setA (S 39) (qG0 S j) n from va_up_eq, setA_set]
  refine setA_cong (fun p hp => ?_)
  show bmP (qS S j n) p (anP (qS S j n) p) = itF (bmP S p) (j + 1) (anP S p)
  rw [qS_bm hn, itF_succ]
  congr 1
  show (qS S j n) 39 (42 + 4 * p) = _
  rw [show (qS S j n) 39 = setA (S 39) (qG0 S j) n from va_up_eq, setA_an hp]
  rfl
theorem qS_me (hW : WfS S T n z) {j : Nat} (hp : p < n) : (qS S j n) 39 (42 + 4 * p) = qG0 S j p := by
  rw [show (qS S j n) 39 = setA (S 39) (qG0 S j) n from va_up_eq, setA_an hp]
set_option maxRecDepth 100000 in
set_option maxHeartbeats 4000000 in
theorem mq_inner (hE : hM E) (hW : WfS S T n z) {j m : Nat} : ∀ (k i : Nat) (A : mA), i + k = n → RM A (qS S 1 i) T → (∀ A', RM A' (qS S 1 n) T → (∀ k, k < 38 → A' k = A k) → qG E mm_X7_quiet (d + 5) 63 [(3, .int (nI n)), (2, .int (nI j)), (0, .ref 38), (1, .int (nI m))] [] A' L Ph) → qG E mm_X7_quiet (d + 5) 22 [(3, .int (nI i)), (2, .int (nI j)), (0, .ref 38), (1, .int (nI m))] [] A L Ph := by
  have hn := hW.2.2.2.2.1.1
  intro k
  induction k with
  | zero =>
    intro i A hi hR h
    have hi : i = n := by omega
    subst hi
    have h6 : A 39 60 = nI i := by rw [hR.1]; exact (qS_wf hW 1 i (Nat.le_refl _)).2.2.2.2.1.2.1
    refine r_iload_n dX7_quiet_22 rfl ?_
    refine r_aload_n dX7_quiet_23 rfl ?_
    refine r_callV0 dX7_quiet_24 lk_X7_94 (ly_38 hE) rfl (Nat.le_of_ble_eq_true rfl) (sp_X7_many hE ?_)
    refine r_rw (y := nI i) h6 ?_
    refine r_icmp_ge (tgt := 63) dX7_quiet_27 (by decide) (fun _ => ?_) (fun hqz => absurd (nI_le (Nat.le_refl _) (by omega)) hqz)
    exact h A hR (fun _ _ => rfl)
  | succ k ih =>
    intro i A hi hR h
    have hp : i < n := by omega
    have hWi := qS_wf hW 1 i (by omega)
    have h6 : A 39 60 = nI n := by rw [hR.1]; exact hWi.2.2.2.2.1.2.1
    refine r_iload_n dX7_quiet_22 rfl ?_
    refine r_aload_n dX7_quiet_23 rfl ?_
    refine r_callV0 dX7_quiet_24 lk_X7_94 (ly_38 hE) rfl (Nat.le_of_ble_eq_true rfl) (sp_X7_many hE ?_)
    refine r_rw (y := nI n) h6 ?_
    refine r_icmp_ge (tgt := 63) dX7_quiet_27 (by decide) (fun hqz => absurd hqz (nI_ge hp (by omega))) (fun _ => ?_)
    refine r_aload_n dX7_quiet_30 rfl ?_
    refine r_iload_n dX7_quiet_31 rfl ?_
    refine r_callV1 dX7_quiet_32 lk_X7_97 (ly_38 hE) rfl (Nat.le_of_ble_eq_true rfl) (mo_take hE hWi hR hp (fun A1 f1 fm hm => ?_))
    refine r_aload_n dX7_quiet_35 rfl ?_
    refine r_getR dX7_quiet_36 fl_X7_7 (ly_38 hE) rfl ?_
    refine r_bipush (v := 40) dX7_quiet_39 rfl ?_
    refine r_iconst (v := 4) dX7_quiet_41 rfl ?_
    refine r_iload_n dX7_quiet_42 rfl ?_
    refine r_imul dX7_quiet_43 ?_
    refine r_iadd dX7_quiet_44 ?_
    refine r_iconst (v := 2) dX7_quiet_45 rfl ?_
    refine r_iadd dX7_quiet_46 ?_
    refine r_rw (y := nI (42 + 4 * i)) (show nI 40 + nI 4 * nI i + nI 2 = _ by rw [pk_mul, nI_add, nI_add]; congr 1; omega) ?_
    refine r_aload_n dX7_quiet_47 rfl ?_
    refine r_aload_n dX7_quiet_48 rfl ?_
    refine r_iload_n dX7_quiet_49 rfl ?_
    refine r_callV1 dX7_quiet_50 lk_X7_101 (ly_38 hE) rfl (Nat.le_of_ble_eq_true rfl) (mo_an hE hWi hm.rm hp ?_)
    refine r_callV1 dX7_quiet_53 lk_X7_215 (ly_38 hE) rfl (Nat.le_of_ble_eq_true rfl) (sp_X7_behindMinute hm (fun A2 f2 => ?_))
    refine r_rw (y := qG0 S 1 i) (show bmP (qS S 1 i) i (anP (qS S 1 i) i) = _ by rw [qS_bm (by omega), qS_an (Nat.le_refl _)]; rfl) ?_
    refine r_iastN dX7_quiet_56 (ly_39 hE) (by omega) (by decide) ?_
    have fr : Fr [39] A2 (s2 A2 39 (42 + 4 * i) (qG0 S 1 i)) := Fr.s2 (by decide)
    have r2 := (hm.f46 f2).rm
    have hR3 : RM (s2 A2 39 (42 + 4 * i) (qG0 S 1 i)) (qS S 1 (i + 1)) T := r2.now (fun q hq => by unfold qS; rw [va_up_no hq, va_up_no hq]) fr (by rw [s2_eq]; exact qS_up r2.1)
    refine r_iinc (v := (nI (i + 1))) (loc' := [(3, .int (nI (i + 1))), (2, .int (nI j)), (0, .ref 38), (1, .int (nI m))]) dX7_quiet_57 rfl ((nI_succ _).symm) (by decide) rfl ?_
    refine r_goto (tgt := 22) dX7_quiet_60 (by decide) ?_
    refine qG.pick [0, 1, 2, 3] rfl ?_
    exact ih (i + 1) _ (by omega) hR3 (fun A4 a b => h A4 a (lo2 (lo2 (fm.tr (fm46 f2)).lo (Fr.lo fr (by decide))) b))
set_option maxRecDepth 100000 in
set_option maxHeartbeats 4000000 in
theorem mq_count (hE : hM E) (hW : WfS S T n z) {m : Nat} {g : Nat → Int32} (hg : ∀ p, p < n → S 39 (42 + 4 * p) = g p) : ∀ (k i : Nat), i + k = n → RM A S T → (Ph (some (.int (nI (calm g n)))) A L) → qG E mm_X7_quiet (d + 5) 73 [(3, .int (nI i)), (2, .int (nI (calm g i))), (0, .ref 38), (1, .int (nI m))] [] A L Ph := by
  have hn := hW.2.2.2.2.1.1
  intro k
  induction k with
  | zero =>
    intro i hi hR h
    have hi : i = n := by omega
    subst hi
    have h6 : A 39 60 = nI i := by rw [hR.1]; exact hW.2.2.2.2.1.2.1
    refine r_iload_n dX7_quiet_73 rfl ?_
    refine r_aload_n dX7_quiet_74 rfl ?_
    refine r_callV0 dX7_quiet_75 lk_X7_94 (ly_38 hE) rfl (Nat.le_of_ble_eq_true rfl) (sp_X7_many hE ?_)
    refine r_rw (y := nI i) h6 ?_
    refine r_icmp_ge (tgt := 103) dX7_quiet_78 (by decide) (fun _ => ?_) (fun hqz => absurd (nI_le (Nat.le_refl _) (by omega)) hqz)
    refine r_iload_n dX7_quiet_103 rfl ?_
    refine r_ireturn dX7_quiet_104 rfl rfl ?_
    exact h
  | succ k ih =>
    intro i hi hR h
    have hp : i < n := by omega
    have h6 : A 39 60 = nI n := by rw [hR.1]; exact hW.2.2.2.2.1.2.1
    refine r_iload_n dX7_quiet_73 rfl ?_
    refine r_aload_n dX7_quiet_74 rfl ?_
    refine r_callV0 dX7_quiet_75 lk_X7_94 (ly_38 hE) rfl (Nat.le_of_ble_eq_true rfl) (sp_X7_many hE ?_)
    refine r_rw (y := nI n) h6 ?_
    refine r_icmp_ge (tgt := 103) dX7_quiet_78 (by decide) (fun hqz => absurd hqz (nI_ge hp (by omega))) (fun _ => ?_)
    refine r_iload_n dX7_quiet_81 rfl ?_
    refine r_aload_n dX7_quiet_82 rfl ?_
    refine r_iload_n dX7_quiet_83 rfl ?_
    refine r_callV1 dX7_quiet_84 lk_X7_101 (ly_38 hE) rfl (Nat.le_of_ble_eq_true rfl) (mo_an hE hW hR hp ?_)
    refine r_rw (y := g i) (hg i hp) ?_
    refine r_if_ne (tgt := 94) dX7_quiet_87 (by decide) (fun b87 => ?_) (fun b87 => ?_)
    · refine r_iconst (v := 0) dX7_quiet_94 rfl ?_
      refine r_iadd dX7_quiet_95 ?_
      first | refine r_rw (y := nI (calm g (i + 1))) (show nI (calm g i) + nI 1 = _ by rw [nI_add, calm, if_pos b87]) ?_ | refine r_rw (y := nI (calm g (i + 1))) (show nI (calm g i) + nI 0 = _ by rw [nI_add, calm, if_neg b87]) ?_
      refine r_istore_n (loc' := [(2, .int (nI (calm g (i + 1)))), (3, .int (nI i)), (0, .ref 38), (1, .int (nI m))]) dX7_quiet_96 (by decide) rfl ?_
      refine r_iinc (v := (nI (i + 1))) (loc' := [(3, .int (nI (i + 1))), (2, .int (nI (calm g (i + 1)))), (0, .ref 38), (1, .int (nI m))]) dX7_quiet_97 rfl ((nI_succ _).symm) (by decide) rfl ?_
      refine r_goto (tgt := 73) dX7_quiet_100 (by decide) ?_
      refine qG.pick [0, 1, 2, 3] rfl ?_
      exact ih (i + 1) (by omega) hR h
    · refine r_iconst (v := 1) dX7_quiet_90 rfl ?_
      refine r_goto (tgt := 95) dX7_quiet_91 (by decide) ?_
      refine r_iadd dX7_quiet_95 ?_
      first | refine r_rw (y := nI (calm g (i + 1))) (show nI (calm g i) + nI 1 = _ by rw [nI_add, calm, if_pos b87]) ?_ | refine r_rw (y := nI (calm g (i + 1))) (show nI (calm g i) + nI 0 = _ by rw [nI_add, calm, if_neg b87]) ?_
      refine r_istore_n (loc' := [(2, .int (nI (calm g (i + 1)))), (3, .int (nI i)), (0, .ref 38), (1, .int (nI m))]) dX7_quiet_96 (by decide) rfl ?_
      refine r_iinc (v := (nI (i + 1))) (loc' := [(3, .int (nI (i + 1))), (2, .int (nI (calm g (i + 1)))), (0, .ref 38), (1, .int (nI m))]) dX7_quiet_97 rfl ((nI_succ _).symm) (by decide) rfl ?_
      refine r_goto (tgt := 73) dX7_quiet_100 (by decide) ?_
      refine qG.pick [0, 1, 2, 3] rfl ?_
      exact ih (i + 1) (by omega) hR h
set_option maxRecDepth 100000 in
set_option maxHeartbeats 4000000 in
theorem mq_outer (hE : hM E) (hW : WfS S T n z) {m : Nat} (hm : m < 100) : ∀ (k j : Nat) (A : mA), j + k = m → RM A (qS S j n) T → (∀ A', RM A' (qS S m n) T → (∀ k, k < 38 → A' k = A k) → Ph (some (.int (nI (calm (qG0 S m) n)))) A' L) → qG E mm_X7_quiet (d + 5) 15 [(2, .int (nI j)), (0, .ref 38), (1, .int (nI m))] [] A L Ph := by
  intro k
  induction k with
  | zero =>
    intro j A hi hR h
    have hi : j = m := by omega
    subst hi
    refine r_iload_n dX7_quiet_15 rfl ?_
    refine r_iload_n dX7_quiet_16 rfl ?_
    refine r_icmp_ge (tgt := 69) dX7_quiet_17 (by decide) (fun _ => ?_) (fun hqz => absurd (nI_le (Nat.le_refl _) (by omega)) hqz)
    refine r_iconst (v := 0) dX7_quiet_69 rfl ?_
    refine r_istore_n (loc' := [(2, .int 0), (0, .ref 38), (1, .int (nI j))]) dX7_quiet_70 (by decide) rfl ?_
    refine r_iconst (v := 0) dX7_quiet_71 rfl ?_
    refine r_istore_n (loc' := [(3, .int 0), (2, .int 0), (0, .ref 38), (1, .int (nI j))]) dX7_quiet_72 (by decide) rfl ?_
    refine qG.pick [0, 1, 2, 3] rfl ?_
    exact mq_count hE (qS_wf hW j n (Nat.le_refl _)) (fun p hp => qS_me hW hp) n 0 (by omega) hR (h A hR (fun _ _ => rfl))
  | succ k ih =>
    intro j A hi hR h
    have hWj := qS_wf hW j n (Nat.le_refl _)
    refine r_iload_n dX7_quiet_15 rfl ?_
    refine r_iload_n dX7_quiet_16 rfl ?_
    refine r_icmp_ge (tgt := 69) dX7_quiet_17 (by decide) (fun hqz => absurd hqz (nI_ge (show j < m by omega) (by omega))) (fun _ => ?_)
    refine r_iconst (v := 0) dX7_quiet_20 rfl ?_
    refine r_istore_n (loc' := [(3, .int 0), (2, .int (nI j)), (0, .ref 38), (1, .int (nI m))]) dX7_quiet_21 (by decide) rfl ?_
    refine qG.pick [0, 1, 2, 3] rfl ?_
    refine mq_inner hE hWj n 0 A (by omega) (by rw [qS_m0]; exact hR) (fun A1 hR1 lo1 => ?_)
    rw [qS_1 hW] at hR1
    refine r_iinc (v := (nI (j + 1))) (loc' := [(2, .int (nI (j + 1))), (3, .int (nI n)), (0, .ref 38), (1, .int (nI m))]) dX7_quiet_63 rfl ((nI_succ _).symm) (by decide) rfl ?_
    refine r_goto (tgt := 15) dX7_quiet_66 (by decide) ?_
    refine qG.pick [0, 2, 3] rfl ?_
    exact ih (j + 1) A1 (by omega) hR1 (fun A2 a b => h A2 a (lo2 lo1 b))
set_option maxRecDepth 100000 in
set_option maxHeartbeats 4000000 in
theorem op_quiet (hE : hM E) (hW : WfS S T n z) (mv : Int32) : OpOK E (d + 6) mm_X6_quiet mm_X7_quiet [.int mv] S T n z := by
  have hEc := hE.c
  have hN := hW.2.2.2.2.1
  have hn := hN.1
  have h60 := hN.2.1
  rcases pk_cases mv 100 with ⟨m, hm, rfl⟩ | hv
  · refine ⟨.int (nI (calm (qG0 S m) n)), qS S m n, T, n, z, ⟨_, rfl⟩, qS_wf hW m n (Nat.le_refl _), fun A L Ph hR hk => ?_, fun A L Ph hR hk => ?_⟩
    · skip
      refine qC.enter (by decide) (Nat.le_of_ble_eq_true rfl) ?_
      refine r_iload_n dX6_quiet_0 rfl ?_
      refine r_bipush (v := 100) dX6_quiet_1 rfl ?_
      refine r_callS2 dX6_quiet_3 lk_X6_100 (Nat.le_of_ble_eq_true rfl) (win_t (lim := 100) rfl (by decide) hm ?_)
      refine r_if_ne (tgt := 12) dX6_quiet_6 (by decide) (fun _ => ?_) (fun hqz => absurd hqz (by decide))
      refine r_iconst (v := 0) dX6_quiet_12 rfl ?_
      refine r_istore_n (loc' := [(2, .int 0), (0, .ref 0), (1, .int (nI m))]) dX6_quiet_13 (by decide) rfl ?_
      refine r_iconst (v := 0) dX6_quiet_14 rfl ?_
      refine r_istore_n (loc' := [(3, .int 0), (2, .int 0), (0, .ref 0), (1, .int (nI m))]) dX6_quiet_15 (by decide) rfl ?_
      exact cq_loop hEc hW hm n 0 A (by omega) (by rw [qS_m0]; exact hR) (fun A1 a b => hk A1 L a b)
    · skip
      refine qC.enter (by decide) (Nat.le_of_ble_eq_true rfl) ?_
      refine r_iload_n dX7_quiet_0 rfl ?_
      refine r_iconst (v := 0) dX7_quiet_1 rfl ?_
      refine r_bipush (v := 99) dX7_quiet_2 rfl ?_
      refine r_callS3 dX7_quiet_4 lk_X7_78 (Nat.le_of_ble_eq_true rfl) (in_t (lim := 100) rfl rfl (by decide) hm ?_)
      refine r_if_ne (tgt := 13) dX7_quiet_7 (by decide) (fun _ => ?_) (fun hqz => absurd hqz (by decide))
      refine r_iconst (v := 0) dX7_quiet_13 rfl ?_
      refine r_istore_n (loc' := [(2, .int 0), (0, .ref 38), (1, .int (nI m))]) dX7_quiet_14 (by decide) rfl ?_
      exact mq_outer hE hW hm m 0 A (by omega) (by rw [qS_0]; exact hR) (fun A1 a b => hk A1 L a b)
  · refine ⟨.int (-2), S, T, n, z, ⟨_, rfl⟩, hW, fun A L Ph hR hk => ?_, fun A L Ph hR hk => ?_⟩
    · have K := hk A L hR (fun _ _ => rfl)
      refine qC.enter (by decide) (Nat.le_of_ble_eq_true rfl) ?_
      refine r_iload_n dX6_quiet_0 rfl ?_
      refine r_bipush (v := 100) dX6_quiet_1 rfl ?_
      refine r_callS2 dX6_quiet_3 lk_X6_100 (Nat.le_of_ble_eq_true rfl) (win_f 100 rfl (by decide) hv ?_)
      refine r_if_ne (tgt := 12) dX6_quiet_6 (by decide) (fun hqz => absurd (by decide) hqz) (fun _ => ?_)
      refine r_bipush (v := (-2)) dX6_quiet_9 rfl ?_
      refine r_ireturn dX6_quiet_11 rfl rfl ?_
      exact K
    · have K := hk A L hR (fun _ _ => rfl)
      refine qC.enter (by decide) (Nat.le_of_ble_eq_true rfl) ?_
      refine r_iload_n dX7_quiet_0 rfl ?_
      refine r_iconst (v := 0) dX7_quiet_1 rfl ?_
      refine r_bipush (v := 99) dX7_quiet_2 rfl ?_
      refine r_callS3 dX7_quiet_4 lk_X7_78 (Nat.le_of_ble_eq_true rfl) (in_f 100 rfl rfl (by decide) hv ?_)
      refine r_if_ne (tgt := 13) dX7_quiet_7 (by decide) (fun hqz => absurd (by decide) hqz) (fun _ => ?_)
      refine r_bipush (v := (-2)) dX7_quiet_10 rfl ?_
      refine r_ireturn dX7_quiet_12 rfl rfl ?_
      exact K
end OPS8
