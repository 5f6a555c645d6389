theorem ten15 {x : Nat} (hx : x < 6) : ¬ (nI (10 + x) < 10 ∨ (15 : Int32) < nI (10 + x)) := by
  have e1 := nI_toInt (n := 10 + x) (by omega)
  have e2 : (10 : Int32).toInt = 10 := by decide
  have e3 : (15 : Int32).toInt = 15 := by decide
  simp only [i_lt, e1, e2, e3]
  omega
theorem not1015 {w : Int32} (h : ¬ ∃ x, x < 6 ∧ w = nI (10 + x)) : w < 10 ∨ 16 ≤ w := by
  have e2 : (10 : Int32).toInt = 10 := by decide
  have e3 : (16 : Int32).toInt = 16 := by decide
  by_cases hz : w < 10
  · exact Or.inl hz
  · by_cases hy : 16 ≤ w
    · exact Or.inr hy
    · simp only [i_lt, i_le, e2, e3] at hz hy
      obtain ⟨j, hj, e⟩ := nI_of (x := w) (by have : (0 : Int32).toInt = 0 := by decide
                                              rw [i_lt]; omega)
      have e1 := nI_toInt hj
      subst e
      exact absurd ⟨j - 10, by omega, by congr 1; omega⟩ h
theorem in1015 {w : Int32} (h : w < 10 ∨ 16 ≤ w) : ¬ ((10 : Int32) ≤ w ∧ w ≤ 15) := by
  have e2 : (10 : Int32).toInt = 10 := by decide
  have e3 : (16 : Int32).toInt = 16 := by decide
  have e4 : (15 : Int32).toInt = 15 := by decide
  simp only [i_lt, i_le, e2, e3, e4] at *
  omega
section OPS4
variable {E : mE} {d : Nat} {A S : mA} {L : mJ} {Ph : mP} {T n z p : Nat}
set_option maxRecDepth 100000 in
set_option maxHeartbeats 4000000 in
theorem op_told (hE : hM E) (hW : WfS S T n z) (of what : Int32) : OpOK E (d + 5) mm_X6_told mm_X7_told [.int of, .int what] S T n z := by
  have hEc := hE.c
  have hN := hW.2.2.2.2.1
  have hn := hN.1
  have h60 := hN.2.1
  by_cases w0 : what = 0
  · subst w0
    refine ⟨.int (S 39 61), S, T, n, z, ⟨_, rfl⟩, hW, fun A L Ph hR hk => ?_, fun A L Ph hR hk => ?_⟩
    · have K := hk A L hR (fun _ _ => rfl)
      rw [← hR.1.2.2.2.1] at K
      refine qC.enter (by decide) (Nat.le_of_ble_eq_true rfl) ?_
      refine r_iload_n dX6_told_0 rfl ?_
      refine r_tableIn (off := 39) (tgt := 40) dX6_told_1 (by decide) (by decide) rfl (by decide) ?_
      refine r_aload_n dX6_told_40 rfl ?_
      refine r_getR dX6_told_41 fl_X6_10 (ly_0 hEc) rfl ?_
      refine r_getI dX6_told_44 fl_X6_104 (ly_1 hEc) rfl ?_
      refine r_ireturn dX6_told_47 rfl rfl ?_
      exact K
    · have K := hk A L hR (fun _ _ => rfl)
      rw [← hR.1] at K
      refine qC.enter (by decide) (Nat.le_of_ble_eq_true rfl) ?_
      refine r_iload_n dX7_told_0 rfl ?_
      refine r_if_eq (tgt := 9) dX7_told_1 (by decide) (fun _ => ?_) (fun hqz => absurd (by decide) hqz)
      refine r_aload_n dX7_told_9 rfl ?_
      refine r_iload_n dX7_told_10 rfl ?_
      refine r_iload_n dX7_told_11 rfl ?_
      refine r_callV2 dX7_told_12 lk_X7_90 (ly_38 hE) rfl (Nat.le_of_ble_eq_true rfl) (plc_0 hE ?_)
      refine r_iconst (v := (-1)) dX7_told_15 rfl ?_
      refine r_icmp_ne (tgt := 25) dX7_told_16 (by decide) (fun _ => ?_) (fun hqz => absurd hqz (by decide))
      refine r_aload_n dX7_told_25 rfl ?_
      refine r_getR dX7_told_26 fl_X7_7 (ly_38 hE) rfl ?_
      refine r_aload_n dX7_told_29 rfl ?_
      refine r_iload_n dX7_told_30 rfl ?_
      refine r_iload_n dX7_told_31 rfl ?_
      refine r_callV2 dX7_told_32 lk_X7_90 (ly_38 hE) rfl (Nat.le_of_ble_eq_true rfl) (plc_0 hE ?_)
      refine r_rw (y := nI 61) rfl ?_
      refine r_ialdN dX7_told_35 (ly_39 hE) (by decide) (by decide) ?_
      refine r_ireturn dX7_told_36 rfl rfl ?_
      exact K
  by_cases w1 : what = 1
  · subst w1
    rcases pk_cases of 40 with ⟨i, hi, rfl⟩ | hv
    · refine ⟨.int (S 39 i), S, T, n, z, ⟨_, rfl⟩, hW, fun A L Ph hR hk => ?_, fun A L Ph hR hk => ?_⟩
      · have K := hk A L hR (fun _ _ => rfl)
        rw [← hR.1.1 i hi] at K
        refine qC.enter (by decide) (Nat.le_of_ble_eq_true rfl) ?_
        refine r_iload_n dX6_told_0 rfl ?_
        refine r_tableIn (off := 47) (tgt := 48) dX6_told_1 (by decide) (by decide) rfl (by decide) ?_
        refine r_aload_n dX6_told_48 rfl ?_
        refine r_getR dX6_told_49 fl_X6_10 (ly_0 hEc) rfl ?_
        refine r_getR dX6_told_52 fl_X6_82 (ly_1 hEc) rfl ?_
        refine r_bipush (v := 40) dX6_told_55 rfl ?_
        refine r_iload_n dX6_told_57 rfl ?_
        refine r_callS3 dX6_told_58 lk_X6_111 (Nat.le_of_ble_eq_true rfl) (itm_t12 hEc (sz := 40) rfl (by decide) hi ?_)
        refine r_ireturn dX6_told_61 rfl rfl ?_
        exact K
      · have K := hk A L hR (fun _ _ => rfl)
        rw [← hR.1] at K
        refine qC.enter (by decide) (Nat.le_of_ble_eq_true rfl) ?_
        refine r_iload_n dX7_told_0 rfl ?_
        refine r_if_eq (tgt := 9) dX7_told_1 (by decide) (fun hqz => absurd hqz (by decide)) (fun _ => ?_)
        refine r_iload_n dX7_told_4 rfl ?_
        refine r_iconst (v := 1) dX7_told_5 rfl ?_
        refine r_icmp_ne (tgt := 37) dX7_told_6 (by decide) (fun hqz => absurd (by decide) hqz) (fun _ => ?_)
        refine r_aload_n dX7_told_9 rfl ?_
        refine r_iload_n dX7_told_10 rfl ?_
        refine r_iload_n dX7_told_11 rfl ?_
        refine r_callV2 dX7_told_12 lk_X7_90 (ly_38 hE) rfl (Nat.le_of_ble_eq_true rfl) (plc_1t hE hi ?_)
        refine r_iconst (v := (-1)) dX7_told_15 rfl ?_
        refine r_icmp_ne (tgt := 25) dX7_told_16 (by decide) (fun _ => ?_) (fun hqz => absurd hqz (nI_nm1 (by omega)))
        refine r_aload_n dX7_told_25 rfl ?_
        refine r_getR dX7_told_26 fl_X7_7 (ly_38 hE) rfl ?_
        refine r_aload_n dX7_told_29 rfl ?_
        refine r_iload_n dX7_told_30 rfl ?_
        refine r_iload_n dX7_told_31 rfl ?_
        refine r_callV2 dX7_told_32 lk_X7_90 (ly_38 hE) rfl (Nat.le_of_ble_eq_true rfl) (plc_1t hE hi ?_)
        refine r_ialdN dX7_told_35 (ly_39 hE) (by omega) (by decide) ?_
        refine r_ireturn dX7_told_36 rfl rfl ?_
        exact K
    · refine ⟨.int (-1000), S, T, n, z, ⟨_, rfl⟩, hW, fun A L Ph hR hk => ?_, fun A L Ph hR hk => ?_⟩
      · have K := hk A L hR (fun _ _ => rfl)
        refine qC.enter (by decide) (Nat.le_of_ble_eq_true rfl) ?_
        refine r_iload_n dX6_told_0 rfl ?_
        refine r_tableIn (off := 47) (tgt := 48) dX6_told_1 (by decide) (by decide) rfl (by decide) ?_
        refine r_aload_n dX6_told_48 rfl ?_
        refine r_getR dX6_told_49 fl_X6_10 (ly_0 hEc) rfl ?_
        refine r_getR dX6_told_52 fl_X6_82 (ly_1 hEc) rfl ?_
        refine r_bipush (v := 40) dX6_told_55 rfl ?_
        refine r_iload_n dX6_told_57 rfl ?_
        refine r_callS3 dX6_told_58 lk_X6_111 (Nat.le_of_ble_eq_true rfl) (itm_f12 hEc (sz := 40) rfl (by decide) hv ?_)
        refine r_ireturn dX6_told_61 rfl rfl ?_
        exact K
      · have K := hk A L hR (fun _ _ => rfl)
        refine qC.enter (by decide) (Nat.le_of_ble_eq_true rfl) ?_
        refine r_iload_n dX7_told_0 rfl ?_
        refine r_if_eq (tgt := 9) dX7_told_1 (by decide) (fun hqz => absurd hqz (by decide)) (fun _ => ?_)
        refine r_iload_n dX7_told_4 rfl ?_
        refine r_iconst (v := 1) dX7_told_5 rfl ?_
        refine r_icmp_ne (tgt := 37) dX7_told_6 (by decide) (fun hqz => absurd (by decide) hqz) (fun _ => ?_)
        refine r_aload_n dX7_told_9 rfl ?_
        refine r_iload_n dX7_told_10 rfl ?_
        refine r_iload_n dX7_told_11 rfl ?_
        refine r_callV2 dX7_told_12 lk_X7_90 (ly_38 hE) rfl (Nat.le_of_ble_eq_true rfl) (plc_1f hE hv ?_)
        refine r_iconst (v := (-1)) dX7_told_15 rfl ?_
        refine r_icmp_ne (tgt := 25) dX7_told_16 (by decide) (fun hqz => absurd (by decide) hqz) (fun _ => ?_)
        refine r_sipush (v := (-1000)) dX7_told_19 rfl ?_
        refine r_goto (tgt := 36) dX7_told_22 (by decide) ?_
        refine r_ireturn dX7_told_36 rfl rfl ?_
        exact K
  rcases pk_cases of n with ⟨p, hp, rfl⟩ | hv
  · have hp5 : p < 5 := by omega
    by_cases w2 : what = 2
    · subst w2
      refine ⟨.int (S 39 (41 + 4 * p)), S, T, n, z, ⟨_, rfl⟩, hW, fun A L Ph hR hk => ?_, fun A L Ph hR hk => ?_⟩
      · have K := hk A L hR (fun _ _ => rfl)
        rw [← (hR.1.2.1 p hp).2.1] at K
        refine qC.enter (by decide) (Nat.le_of_ble_eq_true rfl) ?_
        refine r_iload_n dX6_told_0 rfl ?_
        refine r_tableIn (off := 61) (tgt := 62) dX6_told_1 (by decide) (by decide) rfl (by decide) ?_
        refine r_aload_n dX6_told_62 rfl ?_
        refine r_getR dX6_told_63 fl_X6_10 (ly_0 hEc) rfl ?_
        refine r_getR dX6_told_66 fl_X6_90 (ly_1 hEc) rfl ?_
        refine r_aload_n dX6_told_69 rfl ?_
        refine r_getR dX6_told_70 fl_X6_10 (ly_0 hEc) rfl ?_
        refine r_getI dX6_told_73 fl_X6_93 (ly_1 hEc) rfl ?_
        refine r_rw (y := nI n) (hR.1.2.2.1.trans h60) ?_
        refine r_iload_n dX6_told_76 rfl ?_
        refine r_callS3 dX6_told_77 lk_X6_111 (Nat.le_of_ble_eq_true rfl) (itm_t14 hEc rfl hn hp ?_)
        refine r_ireturn dX6_told_80 rfl rfl ?_
        exact K
      · skip
        refine qC.enter (by decide) (Nat.le_of_ble_eq_true rfl) ?_
        refine r_iload_n dX7_told_0 rfl ?_
        refine r_if_eq (tgt := 9) dX7_told_1 (by decide) (fun hqz => absurd hqz (by decide)) (fun _ => ?_)
        refine r_iload_n dX7_told_4 rfl ?_
        refine r_iconst (v := 1) dX7_told_5 rfl ?_
        refine r_icmp_ne (tgt := 37) dX7_told_6 (by decide) (fun _ => ?_) (fun hqz => absurd hqz (by decide))
        refine r_aload_n dX7_told_37 rfl ?_
        refine r_iload_n dX7_told_38 rfl ?_
        refine r_callV1 dX7_told_39 lk_X7_82 (ly_38 hE) rfl (Nat.le_of_ble_eq_true rfl) (isP_t hE hn (by rw [hR.1]; exact h60) hp ?_)
        refine r_if_ne (tgt := 49) dX7_told_42 (by decide) (fun _ => ?_) (fun hqz => absurd hqz (by decide))
        refine r_aload_n dX7_told_49 rfl ?_
        refine r_iload_n dX7_told_50 rfl ?_
        refine r_callV1 dX7_told_51 lk_X7_97 (ly_38 hE) rfl (Nat.le_of_ble_eq_true rfl) (mo_take hE hW hR hp (fun A1 f1 fm hm => ?_))
        refine r_aload_n dX7_told_54 rfl ?_
        refine r_iload_n dX7_told_55 rfl ?_
        refine r_callV1 dX7_told_56 lk_X7_101 (ly_38 hE) rfl (Nat.le_of_ble_eq_true rfl) (mo_an hE hW hm.rm hp ?_)
        refine r_topi (fun v59 e59 => ?_)
        refine r_istore_n (loc' := [(3, .int v59), (0, .ref 38), (1, .int (nI p)), (2, .int 2)]) dX7_told_59 (by decide) rfl ?_
        refine r_iload_n dX7_told_60 rfl ?_
        refine r_tableIn (off := 39) (tgt := 100) dX7_told_61 (by decide) (by decide) rfl (by decide) ?_
        refine r_aload_n dX7_told_100 rfl ?_
        refine r_iload_n dX7_told_101 rfl ?_
        refine r_callV1 dX7_told_102 lk_X7_104 (ly_38 hE) rfl (Nat.le_of_ble_eq_true rfl) (sp_X7_number hE hp5 ?_)
        refine r_ireturn dX7_told_105 rfl rfl ?_
        rw [show A1 39 = S 39 from hm.rm.1]
        exact hk A1 L hm.rm fm.lo
    by_cases w3 : what = 3
    · subst w3
      refine ⟨.int (S 39 (42 + 4 * p)), S, T, n, z, ⟨_, rfl⟩, hW, fun A L Ph hR hk => ?_, fun A L Ph hR hk => ?_⟩
      · have K := hk A L hR (fun _ _ => rfl)
        rw [← (hR.1.2.1 p hp).2.2.1] at K
        refine qC.enter (by decide) (Nat.le_of_ble_eq_true rfl) ?_
        refine r_iload_n dX6_told_0 rfl ?_
        refine r_tableIn (off := 80) (tgt := 81) dX6_told_1 (by decide) (by decide) rfl (by decide) ?_
        refine r_aload_n dX6_told_81 rfl ?_
        refine r_getR dX6_told_82 fl_X6_10 (ly_0 hEc) rfl ?_
        refine r_getR dX6_told_85 fl_X6_97 (ly_1 hEc) rfl ?_
        refine r_aload_n dX6_told_88 rfl ?_
        refine r_getR dX6_told_89 fl_X6_10 (ly_0 hEc) rfl ?_
        refine r_getI dX6_told_92 fl_X6_93 (ly_1 hEc) rfl ?_
        refine r_rw (y := nI n) (hR.1.2.2.1.trans h60) ?_
        refine r_iload_n dX6_told_95 rfl ?_
        refine r_callS3 dX6_told_96 lk_X6_111 (Nat.le_of_ble_eq_true rfl) (itm_t15 hEc rfl hn hp ?_)
        refine r_ireturn dX6_told_99 rfl rfl ?_
        exact K
      · skip
        refine qC.enter (by decide) (Nat.le_of_ble_eq_true rfl) ?_
        refine r_iload_n dX7_told_0 rfl ?_
        refine r_if_eq (tgt := 9) dX7_told_1 (by decide) (fun hqz => absurd hqz (by decide)) (fun _ => ?_)
        refine r_iload_n dX7_told_4 rfl ?_
        refine r_iconst (v := 1) dX7_told_5 rfl ?_
        refine r_icmp_ne (tgt := 37) dX7_told_6 (by decide) (fun _ => ?_) (fun hqz => absurd hqz (by decide))
        refine r_aload_n dX7_told_37 rfl ?_
        refine r_iload_n dX7_told_38 rfl ?_
        refine r_callV1 dX7_told_39 lk_X7_82 (ly_38 hE) rfl (Nat.le_of_ble_eq_true rfl) (isP_t hE hn (by rw [hR.1]; exact h60) hp ?_)
        refine r_if_ne (tgt := 49) dX7_told_42 (by decide) (fun _ => ?_) (fun hqz => absurd hqz (by decide))
        refine r_aload_n dX7_told_49 rfl ?_
        refine r_iload_n dX7_told_50 rfl ?_
        refine r_callV1 dX7_told_51 lk_X7_97 (ly_38 hE) rfl (Nat.le_of_ble_eq_true rfl) (mo_take hE hW hR hp (fun A1 f1 fm hm => ?_))
        refine r_aload_n dX7_told_54 rfl ?_
        refine r_iload_n dX7_told_55 rfl ?_
        refine r_callV1 dX7_told_56 lk_X7_101 (ly_38 hE) rfl (Nat.le_of_ble_eq_true rfl) (mo_an hE hW hm.rm hp ?_)
        refine r_topi (fun v59 e59 => ?_)
        refine r_istore_n (loc' := [(3, .int v59), (0, .ref 38), (1, .int (nI p)), (2, .int 3)]) dX7_told_59 (by decide) rfl ?_
        refine r_iload_n dX7_told_60 rfl ?_
        refine r_tableIn (off := 45) (tgt := 106) dX7_told_61 (by decide) (by decide) rfl (by decide) ?_
        refine r_iload_n dX7_told_106 rfl ?_
        refine r_ireturn dX7_told_107 rfl rfl ?_
        subst e59
        exact hk A1 L hm.rm fm.lo
    by_cases w4 : what = 4
    · subst w4
      refine ⟨.int (S 39 (40 + 4 * p)), S, T, n, z, ⟨_, rfl⟩, hW, fun A L Ph hR hk => ?_, fun A L Ph hR hk => ?_⟩
      · have K := hk A L hR (fun _ _ => rfl)
        rw [← (hR.1.2.1 p hp).1] at K
        refine qC.enter (by decide) (Nat.le_of_ble_eq_true rfl) ?_
        refine r_iload_n dX6_told_0 rfl ?_
        refine r_tableIn (off := 99) (tgt := 100) dX6_told_1 (by decide) (by decide) rfl (by decide) ?_
        refine r_aload_n dX6_told_100 rfl ?_
        refine r_getR dX6_told_101 fl_X6_10 (ly_0 hEc) rfl ?_
        refine r_getR dX6_told_104 fl_X6_115 (ly_1 hEc) rfl ?_
        refine r_aload_n dX6_told_107 rfl ?_
        refine r_getR dX6_told_108 fl_X6_10 (ly_0 hEc) rfl ?_
        refine r_getI dX6_told_111 fl_X6_93 (ly_1 hEc) rfl ?_
        refine r_rw (y := nI n) (hR.1.2.2.1.trans h60) ?_
        refine r_iload_n dX6_told_114 rfl ?_
        refine r_callS3 dX6_told_115 lk_X6_111 (Nat.le_of_ble_eq_true rfl) (itm_t13 hEc rfl hn hp ?_)
        refine r_ireturn dX6_told_118 rfl rfl ?_
        exact K
      · skip
        refine qC.enter (by decide) (Nat.le_of_ble_eq_true rfl) ?_
        refine r_iload_n dX7_told_0 rfl ?_
        refine r_if_eq (tgt := 9) dX7_told_1 (by decide) (fun hqz => absurd hqz (by decide)) (fun _ => ?_)
        refine r_iload_n dX7_told_4 rfl ?_
        refine r_iconst (v := 1) dX7_told_5 rfl ?_
        refine r_icmp_ne (tgt := 37) dX7_told_6 (by decide) (fun _ => ?_) (fun hqz => absurd hqz (by decide))
        refine r_aload_n dX7_told_37 rfl ?_
        refine r_iload_n dX7_told_38 rfl ?_
        refine r_callV1 dX7_told_39 lk_X7_82 (ly_38 hE) rfl (Nat.le_of_ble_eq_true rfl) (isP_t hE hn (by rw [hR.1]; exact h60) hp ?_)
        refine r_if_ne (tgt := 49) dX7_told_42 (by decide) (fun _ => ?_) (fun hqz => absurd hqz (by decide))
        refine r_aload_n dX7_told_49 rfl ?_
        refine r_iload_n dX7_told_50 rfl ?_
        refine r_callV1 dX7_told_51 lk_X7_97 (ly_38 hE) rfl (Nat.le_of_ble_eq_true rfl) (mo_take hE hW hR hp (fun A1 f1 fm hm => ?_))
        refine r_aload_n dX7_told_54 rfl ?_
        refine r_iload_n dX7_told_55 rfl ?_
        refine r_callV1 dX7_told_56 lk_X7_101 (ly_38 hE) rfl (Nat.le_of_ble_eq_true rfl) (mo_an hE hW hm.rm hp ?_)
        refine r_topi (fun v59 e59 => ?_)
        refine r_istore_n (loc' := [(3, .int v59), (0, .ref 38), (1, .int (nI p)), (2, .int 4)]) dX7_told_59 (by decide) rfl ?_
        refine r_iload_n dX7_told_60 rfl ?_
        refine r_tableIn (off := 47) (tgt := 108) dX7_told_61 (by decide) (by decide) rfl (by decide) ?_
        refine r_aload_n dX7_told_108 rfl ?_
        refine r_iload_n dX7_told_109 rfl ?_
        refine r_callV1 dX7_told_110 lk_X7_107 (ly_38 hE) rfl (Nat.le_of_ble_eq_true rfl) (sp_X7_kind hE hp5 ?_)
        refine r_ireturn dX7_told_113 rfl rfl ?_
        rw [show A1 39 = S 39 from hm.rm.1]
        exact hk A1 L hm.rm fm.lo
    by_cases w5 : what = 5
    · subst w5
      refine ⟨.int (S 39 (43 + 4 * p)), S, T, n, z, ⟨_, rfl⟩, hW, fun A L Ph hR hk => ?_, fun A L Ph hR hk => ?_⟩
      · have K := hk A L hR (fun _ _ => rfl)
        rw [← (hR.1.2.1 p hp).2.2.2] at K
        refine qC.enter (by decide) (Nat.le_of_ble_eq_true rfl) ?_
        refine r_iload_n dX6_told_0 rfl ?_
        refine r_tableIn (off := 118) (tgt := 119) dX6_told_1 (by decide) (by decide) rfl (by decide) ?_
        refine r_aload_n dX6_told_119 rfl ?_
        refine r_getR dX6_told_120 fl_X6_10 (ly_0 hEc) rfl ?_
        refine r_getR dX6_told_123 fl_X6_118 (ly_1 hEc) rfl ?_
        refine r_aload_n dX6_told_126 rfl ?_
        refine r_getR dX6_told_127 fl_X6_10 (ly_0 hEc) rfl ?_
        refine r_getI dX6_told_130 fl_X6_93 (ly_1 hEc) rfl ?_
        refine r_rw (y := nI n) (hR.1.2.2.1.trans h60) ?_
        refine r_iload_n dX6_told_133 rfl ?_
        refine r_callS3 dX6_told_134 lk_X6_111 (Nat.le_of_ble_eq_true rfl) (itm_t16 hEc rfl hn hp ?_)
        refine r_ireturn dX6_told_137 rfl rfl ?_
        exact K
      · skip
        refine qC.enter (by decide) (Nat.le_of_ble_eq_true rfl) ?_
        refine r_iload_n dX7_told_0 rfl ?_
        refine r_if_eq (tgt := 9) dX7_told_1 (by decide) (fun hqz => absurd hqz (by decide)) (fun _ => ?_)
        refine r_iload_n dX7_told_4 rfl ?_
        refine r_iconst (v := 1) dX7_told_5 rfl ?_
        refine r_icmp_ne (tgt := 37) dX7_told_6 (by decide) (fun _ => ?_) (fun hqz => absurd hqz (by decide))
        refine r_aload_n dX7_told_37 rfl ?_
        refine r_iload_n dX7_told_38 rfl ?_
        refine r_callV1 dX7_told_39 lk_X7_82 (ly_38 hE) rfl (Nat.le_of_ble_eq_true rfl) (isP_t hE hn (by rw [hR.1]; exact h60) hp ?_)
        refine r_if_ne (tgt := 49) dX7_told_42 (by decide) (fun _ => ?_) (fun hqz => absurd hqz (by decide))
        refine r_aload_n dX7_told_49 rfl ?_
        refine r_iload_n dX7_told_50 rfl ?_
        refine r_callV1 dX7_told_51 lk_X7_97 (ly_38 hE) rfl (Nat.le_of_ble_eq_true rfl) (mo_take hE hW hR hp (fun A1 f1 fm hm => ?_))
        refine r_aload_n dX7_told_54 rfl ?_
        refine r_iload_n dX7_told_55 rfl ?_
        refine r_callV1 dX7_told_56 lk_X7_101 (ly_38 hE) rfl (Nat.le_of_ble_eq_true rfl) (mo_an hE hW hm.rm hp ?_)
        refine r_topi (fun v59 e59 => ?_)
        refine r_istore_n (loc' := [(3, .int v59), (0, .ref 38), (1, .int (nI p)), (2, .int 5)]) dX7_told_59 (by decide) rfl ?_
        refine r_iload_n dX7_told_60 rfl ?_
        refine r_tableIn (off := 53) (tgt := 114) dX7_told_61 (by decide) (by decide) rfl (by decide) ?_
        refine r_aload_n dX7_told_114 rfl ?_
        refine r_getR dX7_told_115 fl_X7_7 (ly_38 hE) rfl ?_
        refine r_bipush (v := 40) dX7_told_118 rfl ?_
        refine r_iconst (v := 4) dX7_told_120 rfl ?_
        refine r_iload_n dX7_told_121 rfl ?_
        refine r_imul dX7_told_122 ?_
        refine r_iadd dX7_told_123 ?_
        refine r_iconst (v := 3) dX7_told_124 rfl ?_
        refine r_iadd dX7_told_125 ?_
        refine r_rw (y := nI (43 + 4 * p)) (show nI 40 + nI 4 * nI p + nI 3 = _ by rw [pk_mul, nI_add, nI_add]; congr 1; omega) ?_
        refine r_ialdN dX7_told_126 (ly_39 hE) (by omega) (by decide) ?_
        refine r_ireturn dX7_told_127 rfl rfl ?_
        rw [show A1 39 = S 39 from hm.rm.1]
        exact hk A1 L hm.rm fm.lo
    by_cases w6 : what = 6
    · subst w6
      refine ⟨.int (coolF S (rF S) (kdP S p) (nrP S p) (anP S p)), S, T, n, z, ⟨_, rfl⟩, hW, fun A L Ph hR hk => ?_, fun A L Ph hR hk => ?_⟩
      · skip
        refine qC.enter (by decide) (Nat.le_of_ble_eq_true rfl) ?_
        refine r_iload_n dX6_told_0 rfl ?_
        refine r_tableOut (tgt := 138) dX6_told_1 (by decide) (by decide) ?_
        refine r_aload_n dX6_told_138 rfl ?_
        refine r_iload_n dX6_told_139 rfl ?_
        refine r_iload_n dX6_told_140 rfl ?_
        refine r_callV2 dX6_told_141 lk_X6_121 (ly_0 hEc) rfl (Nat.le_of_ble_eq_true rfl) (felt_6 hEc hW hR hp (fun A1 hR1 fr => ?_))
        refine r_ireturn dX6_told_144 rfl rfl ?_
        exact hk A1 L hR1 fr
      · skip
        refine qC.enter (by decide) (Nat.le_of_ble_eq_true rfl) ?_
        refine r_iload_n dX7_told_0 rfl ?_
        refine r_if_eq (tgt := 9) dX7_told_1 (by decide) (fun hqz => absurd hqz (by decide)) (fun _ => ?_)
        refine r_iload_n dX7_told_4 rfl ?_
        refine r_iconst (v := 1) dX7_told_5 rfl ?_
        refine r_icmp_ne (tgt := 37) dX7_told_6 (by decide) (fun _ => ?_) (fun hqz => absurd hqz (by decide))
        refine r_aload_n dX7_told_37 rfl ?_
        refine r_iload_n dX7_told_38 rfl ?_
        refine r_callV1 dX7_told_39 lk_X7_82 (ly_38 hE) rfl (Nat.le_of_ble_eq_true rfl) (isP_t hE hn (by rw [hR.1]; exact h60) hp ?_)
        refine r_if_ne (tgt := 49) dX7_told_42 (by decide) (fun _ => ?_) (fun hqz => absurd hqz (by decide))
        refine r_aload_n dX7_told_49 rfl ?_
        refine r_iload_n dX7_told_50 rfl ?_
        refine r_callV1 dX7_told_51 lk_X7_97 (ly_38 hE) rfl (Nat.le_of_ble_eq_true rfl) (mo_take hE hW hR hp (fun A1 f1 fm hm => ?_))
        refine r_aload_n dX7_told_54 rfl ?_
        refine r_iload_n dX7_told_55 rfl ?_
        refine r_callV1 dX7_told_56 lk_X7_101 (ly_38 hE) rfl (Nat.le_of_ble_eq_true rfl) (mo_an hE hW hm.rm hp ?_)
        refine r_topi (fun v59 e59 => ?_)
        refine r_istore_n (loc' := [(3, .int v59), (0, .ref 38), (1, .int (nI p)), (2, .int 6)]) dX7_told_59 (by decide) rfl ?_
        refine r_iload_n dX7_told_60 rfl ?_
        refine r_tableIn (off := 67) (tgt := 128) dX7_told_61 (by decide) (by decide) rfl (by decide) ?_
        refine r_aload_n dX7_told_128 rfl ?_
        refine r_iload_n dX7_told_129 rfl ?_
        refine r_callV1 dX7_told_130 lk_X7_110 (ly_38 hE) rfl (Nat.le_of_ble_eq_true rfl) (sp_X7_cools hm (fun A2 f2 => ?_))
        refine r_ireturn dX7_told_133 rfl rfl ?_
        subst e59
        exact hk A2 L (hm.f46 f2).rm (fm.tr (fm46 f2)).lo
    by_cases w7 : what = 7
    · subst w7
      refine ⟨.int (farF S (rF S) (kdP S p) (nrP S p) (anP S p)), S, T, n, z, ⟨_, rfl⟩, hW, fun A L Ph hR hk => ?_, fun A L Ph hR hk => ?_⟩
      · skip
        refine qC.enter (by decide) (Nat.le_of_ble_eq_true rfl) ?_
        refine r_iload_n dX6_told_0 rfl ?_
        refine r_tableOut (tgt := 138) dX6_told_1 (by decide) (by decide) ?_
        refine r_aload_n dX6_told_138 rfl ?_
        refine r_iload_n dX6_told_139 rfl ?_
        refine r_iload_n dX6_told_140 rfl ?_
        refine r_callV2 dX6_told_141 lk_X6_121 (ly_0 hEc) rfl (Nat.le_of_ble_eq_true rfl) (felt_7 hEc hW hR hp (fun A1 hR1 fr => ?_))
        refine r_ireturn dX6_told_144 rfl rfl ?_
        exact hk A1 L hR1 fr
      · skip
        refine qC.enter (by decide) (Nat.le_of_ble_eq_true rfl) ?_
        refine r_iload_n dX7_told_0 rfl ?_
        refine r_if_eq (tgt := 9) dX7_told_1 (by decide) (fun hqz => absurd hqz (by decide)) (fun _ => ?_)
        refine r_iload_n dX7_told_4 rfl ?_
        refine r_iconst (v := 1) dX7_told_5 rfl ?_
        refine r_icmp_ne (tgt := 37) dX7_told_6 (by decide) (fun _ => ?_) (fun hqz => absurd hqz (by decide))
        refine r_aload_n dX7_told_37 rfl ?_
        refine r_iload_n dX7_told_38 rfl ?_
        refine r_callV1 dX7_told_39 lk_X7_82 (ly_38 hE) rfl (Nat.le_of_ble_eq_true rfl) (isP_t hE hn (by rw [hR.1]; exact h60) hp ?_)
        refine r_if_ne (tgt := 49) dX7_told_42 (by decide) (fun _ => ?_) (fun hqz => absurd hqz (by decide))
        refine r_aload_n dX7_told_49 rfl ?_
        refine r_iload_n dX7_told_50 rfl ?_
        refine r_callV1 dX7_told_51 lk_X7_97 (ly_38 hE) rfl (Nat.le_of_ble_eq_true rfl) (mo_take hE hW hR hp (fun A1 f1 fm hm => ?_))
        refine r_aload_n dX7_told_54 rfl ?_
        refine r_iload_n dX7_told_55 rfl ?_
        refine r_callV1 dX7_told_56 lk_X7_101 (ly_38 hE) rfl (Nat.le_of_ble_eq_true rfl) (mo_an hE hW hm.rm hp ?_)
        refine r_topi (fun v59 e59 => ?_)
        refine r_istore_n (loc' := [(3, .int v59), (0, .ref 38), (1, .int (nI p)), (2, .int 7)]) dX7_told_59 (by decide) rfl ?_
        refine r_iload_n dX7_told_60 rfl ?_
        refine r_tableIn (off := 73) (tgt := 134) dX7_told_61 (by decide) (by decide) rfl (by decide) ?_
        refine r_aload_n dX7_told_134 rfl ?_
        refine r_iload_n dX7_told_135 rfl ?_
        refine r_callV1 dX7_told_136 lk_X7_113 (ly_38 hE) rfl (Nat.le_of_ble_eq_true rfl) (sp_X7_far hm (fun A2 f2 => ?_))
        refine r_ireturn dX7_told_139 rfl rfl ?_
        subst e59
        exact hk A2 L (hm.f46 f2).rm (fm.tr (fm46 f2)).lo
    by_cases w10 : ∃ x, x < 6 ∧ what = nI (10 + x)
    · obtain ⟨x, hx, rfl⟩ := w10
      refine ⟨.int (heatF S (rF S) (kdP S p) (nrP S p) (anP S p) (nI x)), S, T, n, z, ⟨_, rfl⟩, hW, fun A L Ph hR hk => ?_, fun A L Ph hR hk => ?_⟩
      · skip
        refine qC.enter (by decide) (Nat.le_of_ble_eq_true rfl) ?_
        refine r_iload_n dX6_told_0 rfl ?_
        refine r_tableOut (tgt := 138) dX6_told_1 (sw_0_5 (fun q => by have := (nI_eq (by omega) (by decide)).mp (show nI (10 + x) = nI 0 from q); omega) (fun q => by have := (nI_eq (by omega) (by decide)).mp (show nI (10 + x) = nI 1 from q); omega) (fun q => by have := (nI_eq (by omega) (by decide)).mp (show nI (10 + x) = nI 2 from q); omega) (fun q => by have := (nI_eq (by omega) (by decide)).mp (show nI (10 + x) = nI 3 from q); omega) (fun q => by have := (nI_eq (by omega) (by decide)).mp (show nI (10 + x) = nI 4 from q); omega) (fun q => by have := (nI_eq (by omega) (by decide)).mp (show nI (10 + x) = nI 5 from q); omega)) (by decide) ?_
        refine r_aload_n dX6_told_138 rfl ?_
        refine r_iload_n dX6_told_139 rfl ?_
        refine r_iload_n dX6_told_140 rfl ?_
        refine r_callV2 dX6_told_141 lk_X6_121 (ly_0 hEc) rfl (Nat.le_of_ble_eq_true rfl) (felt_h hEc hW hR hp hx (fun A1 hR1 fr => ?_))
        refine r_ireturn dX6_told_144 rfl rfl ?_
        exact hk A1 L hR1 fr
      · skip
        refine qC.enter (by decide) (Nat.le_of_ble_eq_true rfl) ?_
        refine r_iload_n dX7_told_0 rfl ?_
        refine r_if_eq (tgt := 9) dX7_told_1 (by decide) (fun hqz => absurd hqz (fun q => by have := (nI_eq (by omega) (by decide)).mp (show nI (10 + x) = nI 0 from q); omega)) (fun _ => ?_)
        refine r_iload_n dX7_told_4 rfl ?_
        refine r_iconst (v := 1) dX7_told_5 rfl ?_
        refine r_icmp_ne (tgt := 37) dX7_told_6 (by decide) (fun _ => ?_) (fun hqz => absurd hqz (fun q => by have := (nI_eq (by omega) (by decide)).mp (show nI (10 + x) = nI 1 from q); omega))
        refine r_aload_n dX7_told_37 rfl ?_
        refine r_iload_n dX7_told_38 rfl ?_
        refine r_callV1 dX7_told_39 lk_X7_82 (ly_38 hE) rfl (Nat.le_of_ble_eq_true rfl) (isP_t hE hn (by rw [hR.1]; exact h60) hp ?_)
        refine r_if_ne (tgt := 49) dX7_told_42 (by decide) (fun _ => ?_) (fun hqz => absurd hqz (by decide))
        refine r_aload_n dX7_told_49 rfl ?_
        refine r_iload_n dX7_told_50 rfl ?_
        refine r_callV1 dX7_told_51 lk_X7_97 (ly_38 hE) rfl (Nat.le_of_ble_eq_true rfl) (mo_take hE hW hR hp (fun A1 f1 fm hm => ?_))
        refine r_aload_n dX7_told_54 rfl ?_
        refine r_iload_n dX7_told_55 rfl ?_
        refine r_callV1 dX7_told_56 lk_X7_101 (ly_38 hE) rfl (Nat.le_of_ble_eq_true rfl) (mo_an hE hW hm.rm hp ?_)
        refine r_topi (fun v59 e59 => ?_)
        refine r_istore_n (loc' := [(3, .int v59), (0, .ref 38), (1, .int (nI p)), (2, .int (nI (10 + x)))]) dX7_told_59 (by decide) rfl ?_
        refine r_iload_n dX7_told_60 rfl ?_
        refine r_tableOut (tgt := 140) dX7_told_61 (sw_2_7 (fun q => by have := (nI_eq (by omega) (by decide)).mp (show nI (10 + x) = nI 2 from q); omega) (fun q => by have := (nI_eq (by omega) (by decide)).mp (show nI (10 + x) = nI 3 from q); omega) (fun q => by have := (nI_eq (by omega) (by decide)).mp (show nI (10 + x) = nI 4 from q); omega) (fun q => by have := (nI_eq (by omega) (by decide)).mp (show nI (10 + x) = nI 5 from q); omega) (fun q => by have := (nI_eq (by omega) (by decide)).mp (show nI (10 + x) = nI 6 from q); omega) (fun q => by have := (nI_eq (by omega) (by decide)).mp (show nI (10 + x) = nI 7 from q); omega)) (by decide) ?_
        refine r_iload_n dX7_told_140 rfl ?_
        refine r_bipush (v := 10) dX7_told_141 rfl ?_
        refine r_bipush (v := 15) dX7_told_143 rfl ?_
        refine r_callS3 dX7_told_145 lk_X7_78 (Nat.le_of_ble_eq_true rfl) (sp_X7_isIn (fun _ _ => ?_) (fun q => absurd q (ten15 hx)))
        refine r_if_eq (tgt := 163) dX7_told_148 (by decide) (fun hqz => absurd hqz (by decide)) (fun _ => ?_)
        refine r_aload_n dX7_told_151 rfl ?_
        refine r_iload_n dX7_told_152 rfl ?_
        refine r_iload_n dX7_told_153 rfl ?_
        refine r_bipush (v := 10) dX7_told_154 rfl ?_
        refine r_isub dX7_told_156 ?_
        refine r_rw (y := nI x) (show nI (10 + x) - nI 10 = _ by rw [pk_sub (by omega)]; congr 1; omega) ?_
        refine r_callV2 dX7_told_157 lk_X7_116 (ly_38 hE) rfl (Nat.le_of_ble_eq_true rfl) (sp_X7_heats hm (fun A2 f2 => ?_))
        refine r_goto (tgt := 166) dX7_told_160 (by decide) ?_
        refine r_ireturn dX7_told_166 rfl rfl ?_
        subst e59
        exact hk A2 L (hm.f46 f2).rm (fm.tr (fm46 f2)).lo
    · have hw : what < 10 ∨ 16 ≤ what := not1015 w10
      refine ⟨.int (-1000), S, T, n, z, ⟨_, rfl⟩, hW, fun A L Ph hR hk => ?_, fun A L Ph hR hk => ?_⟩
      · skip
        refine qC.enter (by decide) (Nat.le_of_ble_eq_true rfl) ?_
        refine r_iload_n dX6_told_0 rfl ?_
        refine r_tableOut (tgt := 138) dX6_told_1 (sw_0_5 w0 w1 w2 w3 w4 w5) (by decide) ?_
        refine r_aload_n dX6_told_138 rfl ?_
        refine r_iload_n dX6_told_139 rfl ?_
        refine r_iload_n dX6_told_140 rfl ?_
        refine r_callV2 dX6_told_141 lk_X6_121 (ly_0 hEc) rfl (Nat.le_of_ble_eq_true rfl) (felt_o hEc hW hR hp w6 w7 hw (fun A1 hR1 fr => ?_))
        refine r_ireturn dX6_told_144 rfl rfl ?_
        exact hk A1 L hR1 fr
      · skip
        refine qC.enter (by decide) (Nat.le_of_ble_eq_true rfl) ?_
        refine r_iload_n dX7_told_0 rfl ?_
        refine r_if_eq (tgt := 9) dX7_told_1 (by decide) (fun hqz => absurd hqz w0) (fun _ => ?_)
        refine r_iload_n dX7_told_4 rfl ?_
        refine r_iconst (v := 1) dX7_told_5 rfl ?_
        refine r_icmp_ne (tgt := 37) dX7_told_6 (by decide) (fun _ => ?_) (fun hqz => absurd hqz w1)
        refine r_aload_n dX7_told_37 rfl ?_
        refine r_iload_n dX7_told_38 rfl ?_
        refine r_callV1 dX7_told_39 lk_X7_82 (ly_38 hE) rfl (Nat.le_of_ble_eq_true rfl) (isP_t hE hn (by rw [hR.1]; exact h60) hp ?_)
        refine r_if_ne (tgt := 49) dX7_told_42 (by decide) (fun _ => ?_) (fun hqz => absurd hqz (by decide))
        refine r_aload_n dX7_told_49 rfl ?_
        refine r_iload_n dX7_told_50 rfl ?_
        refine r_callV1 dX7_told_51 lk_X7_97 (ly_38 hE) rfl (Nat.le_of_ble_eq_true rfl) (mo_take hE hW hR hp (fun A1 f1 fm hm => ?_))
        refine r_aload_n dX7_told_54 rfl ?_
        refine r_iload_n dX7_told_55 rfl ?_
        refine r_callV1 dX7_told_56 lk_X7_101 (ly_38 hE) rfl (Nat.le_of_ble_eq_true rfl) (mo_an hE hW hm.rm hp ?_)
        refine r_topi (fun v59 e59 => ?_)
        refine r_istore_n (loc' := [(3, .int v59), (0, .ref 38), (1, .int (nI p)), (2, .int what)]) dX7_told_59 (by decide) rfl ?_
        refine r_iload_n dX7_told_60 rfl ?_
        refine r_tableOut (tgt := 140) dX7_told_61 (sw_2_7 w2 w3 w4 w5 w6 w7) (by decide) ?_
        refine r_iload_n dX7_told_140 rfl ?_
        refine r_bipush (v := 10) dX7_told_141 rfl ?_
        refine r_bipush (v := 15) dX7_told_143 rfl ?_
        refine r_callS3 dX7_told_145 lk_X7_78 (Nat.le_of_ble_eq_true rfl) (sp_X7_isIn (fun a b => absurd (And.intro a b) (in1015 hw)) (fun _ => ?_))
        refine r_if_eq (tgt := 163) dX7_told_148 (by decide) (fun _ => ?_) (fun hqz => absurd (by decide) hqz)
        refine r_sipush (v := (-1000)) dX7_told_163 rfl ?_
        refine r_ireturn dX7_told_166 rfl rfl ?_
        exact hk A1 L hm.rm fm.lo
  · have hb : ∀ A : mA, RC A S T n z → A 1 5 = nI n := fun A hR => hR.1.2.2.1.trans h60
    refine ⟨.int (-1000), S, T, n, z, ⟨_, rfl⟩, hW, fun A L Ph hR hk => ?_, fun A L Ph hR hk => ?_⟩
    · have K := hk A L hR (fun _ _ => rfl)
      refine qC.enter (by decide) (Nat.le_of_ble_eq_true rfl) ?_
      refine r_iload_n dX6_told_0 rfl ?_
      by_cases e1_2 : what = 2
      · refine r_tableIn (off := 61) (tgt := 62) dX6_told_1 (by rw [e1_2]; decide) (by rw [e1_2]; decide) (by rw [e1_2]; rfl) (by decide) ?_
        refine r_aload_n dX6_told_62 rfl ?_
        refine r_getR dX6_told_63 fl_X6_10 (ly_0 hEc) rfl ?_
        refine r_getR dX6_told_66 fl_X6_90 (ly_1 hEc) rfl ?_
        refine r_aload_n dX6_told_69 rfl ?_
        refine r_getR dX6_told_70 fl_X6_10 (ly_0 hEc) rfl ?_
        refine r_getI dX6_told_73 fl_X6_93 (ly_1 hEc) rfl ?_
        refine r_rw (y := nI n) (hR.1.2.2.1.trans h60) ?_
        refine r_iload_n dX6_told_76 rfl ?_
        refine r_callS3 dX6_told_77 lk_X6_111 (Nat.le_of_ble_eq_true rfl) (itm_f14 hEc rfl hn hv ?_)
        refine r_ireturn dX6_told_80 rfl rfl ?_
        exact K
      by_cases e1_3 : what = 3
      · refine r_tableIn (off := 80) (tgt := 81) dX6_told_1 (by rw [e1_3]; decide) (by rw [e1_3]; decide) (by rw [e1_3]; rfl) (by decide) ?_
        refine r_aload_n dX6_told_81 rfl ?_
        refine r_getR dX6_told_82 fl_X6_10 (ly_0 hEc) rfl ?_
        refine r_getR dX6_told_85 fl_X6_97 (ly_1 hEc) rfl ?_
        refine r_aload_n dX6_told_88 rfl ?_
        refine r_getR dX6_told_89 fl_X6_10 (ly_0 hEc) rfl ?_
        refine r_getI dX6_told_92 fl_X6_93 (ly_1 hEc) rfl ?_
        refine r_rw (y := nI n) (hR.1.2.2.1.trans h60) ?_
        refine r_iload_n dX6_told_95 rfl ?_
        refine r_callS3 dX6_told_96 lk_X6_111 (Nat.le_of_ble_eq_true rfl) (itm_f15 hEc rfl hn hv ?_)
        refine r_ireturn dX6_told_99 rfl rfl ?_
        exact K
      by_cases e1_4 : what = 4
      · refine r_tableIn (off := 99) (tgt := 100) dX6_told_1 (by rw [e1_4]; decide) (by rw [e1_4]; decide) (by rw [e1_4]; rfl) (by decide) ?_
        refine r_aload_n dX6_told_100 rfl ?_
        refine r_getR dX6_told_101 fl_X6_10 (ly_0 hEc) rfl ?_
        refine r_getR dX6_told_104 fl_X6_115 (ly_1 hEc) rfl ?_
        refine r_aload_n dX6_told_107 rfl ?_
        refine r_getR dX6_told_108 fl_X6_10 (ly_0 hEc) rfl ?_
        refine r_getI dX6_told_111 fl_X6_93 (ly_1 hEc) rfl ?_
        refine r_rw (y := nI n) (hR.1.2.2.1.trans h60) ?_
        refine r_iload_n dX6_told_114 rfl ?_
        refine r_callS3 dX6_told_115 lk_X6_111 (Nat.le_of_ble_eq_true rfl) (itm_f13 hEc rfl hn hv ?_)
        refine r_ireturn dX6_told_118 rfl rfl ?_
        exact K
      by_cases e1_5 : what = 5
      · refine r_tableIn (off := 118) (tgt := 119) dX6_told_1 (by rw [e1_5]; decide) (by rw [e1_5]; decide) (by rw [e1_5]; rfl) (by decide) ?_
        refine r_aload_n dX6_told_119 rfl ?_
        refine r_getR dX6_told_120 fl_X6_10 (ly_0 hEc) rfl ?_
        refine r_getR dX6_told_123 fl_X6_118 (ly_1 hEc) rfl ?_
        refine r_aload_n dX6_told_126 rfl ?_
        refine r_getR dX6_told_127 fl_X6_10 (ly_0 hEc) rfl ?_
        refine r_getI dX6_told_130 fl_X6_93 (ly_1 hEc) rfl ?_
        refine r_rw (y := nI n) (hR.1.2.2.1.trans h60) ?_
        refine r_iload_n dX6_told_133 rfl ?_
        refine r_callS3 dX6_told_134 lk_X6_111 (Nat.le_of_ble_eq_true rfl) (itm_f16 hEc rfl hn hv ?_)
        refine r_ireturn dX6_told_137 rfl rfl ?_
        exact K
      refine r_tableOut (tgt := 138) dX6_told_1 (sw_0_5 w0 w1 e1_2 e1_3 e1_4 e1_5) (by decide) ?_
      refine r_aload_n dX6_told_138 rfl ?_
      refine r_iload_n dX6_told_139 rfl ?_
      refine r_iload_n dX6_told_140 rfl ?_
      refine r_callV2 dX6_told_141 lk_X6_121 (ly_0 hEc) rfl (Nat.le_of_ble_eq_true rfl) (felt_f hEc hn (hb A hR) hv ?_)
      refine r_ireturn dX6_told_144 rfl rfl ?_
      exact K
    · have K := hk A L hR (fun _ _ => rfl)
      refine qC.enter (by decide) (Nat.le_of_ble_eq_true rfl) ?_
      refine r_iload_n dX7_told_0 rfl ?_
      refine r_if_eq (tgt := 9) dX7_told_1 (by decide) (fun hqz => absurd hqz w0) (fun _ => ?_)
      refine r_iload_n dX7_told_4 rfl ?_
      refine r_iconst (v := 1) dX7_told_5 rfl ?_
      refine r_icmp_ne (tgt := 37) dX7_told_6 (by decide) (fun _ => ?_) (fun hqz => absurd hqz w1)
      refine r_aload_n dX7_told_37 rfl ?_
      refine r_iload_n dX7_told_38 rfl ?_
      refine r_callV1 dX7_told_39 lk_X7_82 (ly_38 hE) rfl (Nat.le_of_ble_eq_true rfl) (isP_f hE hn (by rw [hR.1]; exact h60) hv ?_)
      refine r_if_ne (tgt := 49) dX7_told_42 (by decide) (fun hqz => absurd (by decide) hqz) (fun _ => ?_)
      refine r_sipush (v := (-1000)) dX7_told_45 rfl ?_
      refine r_ireturn dX7_told_48 rfl rfl ?_
      exact K
end OPS4
