/-! pair, feed, force -/
section OPS2
variable {E : mE} {d : Nat} {A S : mA} {L : mJ} {Ph : mP} {T n z : Nat}
set_option maxRecDepth 100000 in
set_option maxHeartbeats 4000000 in
theorem seat_f (hE : hC E) {k q a : Int32} (h5 : A 1 5 = 5) (h : Ph (some (.int (-4))) A L) : qC E mm_X2_seat d [.ref 1, .int k, .int q, .int a] A L Ph := by
  refine qC.enter (by decide) (Nat.le_of_ble_eq_true rfl) ?_
  refine r_aload_n dX2_seat_0 rfl ?_
  refine r_getI dX2_seat_1 fl_X2_33 (ly_1 hE) rfl ?_
  refine r_rw (y := 5) h5 ?_
  refine r_if_lt (tgt := 15) dX2_seat_4 (by decide) (fun hqz => absurd hqz (by decide)) (fun _ => ?_)
  refine r_aload_n dX2_seat_7 rfl ?_
  refine r_getI dX2_seat_8 fl_X2_33 (ly_1 hE) rfl ?_
  refine r_rw (y := 5) h5 ?_
  refine r_iconst (v := 5) dX2_seat_11 rfl ?_
  refine r_icmp_lt (tgt := 18) dX2_seat_12 (by decide) (fun hqz => absurd hqz (by decide)) (fun _ => ?_)
  refine r_bipush (v := (-4)) dX2_seat_15 rfl ?_
  refine r_ireturn dX2_seat_17 rfl rfl ?_
  exact h
set_option maxRecDepth 100000 in
set_option maxHeartbeats 4000000 in
theorem seat_t (hE : hC E) {k q a : Nat} (hn : n < 5) (h5 : A 1 5 = nI n) (h : Ph (some (.int (nI n))) (addC A n k q a) L) : qC E mm_X2_seat d [.ref 1, .int (nI k), .int (nI q), .int (nI a)] A L Ph := by
  refine qC.enter (by decide) (Nat.le_of_ble_eq_true rfl) ?_
  refine r_aload_n dX2_seat_0 rfl ?_
  refine r_getI dX2_seat_1 fl_X2_33 (ly_1 hE) rfl ?_
  refine r_rw (y := nI n) h5 ?_
  refine r_if_lt (tgt := 15) dX2_seat_4 (by decide) (fun hqz => absurd hqz (nI_pos (by omega))) (fun _ => ?_)
  refine r_aload_n dX2_seat_7 rfl ?_
  refine r_getI dX2_seat_8 fl_X2_33 (ly_1 hE) rfl ?_
  refine r_rw (y := nI n) h5 ?_
  refine r_iconst (v := 5) dX2_seat_11 rfl ?_
  refine r_icmp_lt (tgt := 18) dX2_seat_12 (by decide) (fun _ => ?_) (fun hqz => absurd (nI_lt (show n < 5 from hn) (by decide)) hqz)
  refine r_aload_n dX2_seat_18 rfl ?_
  refine r_getR dX2_seat_19 fl_X2_15 (ly_1 hE) rfl ?_
  refine r_aload_n dX2_seat_22 rfl ?_
  refine r_getI dX2_seat_23 fl_X2_33 (ly_1 hE) rfl ?_
  refine r_rw (y := nI n) h5 ?_
  refine r_iload_n dX2_seat_26 rfl ?_
  refine r_iastN dX2_seat_27 (ly_13 hE) (by omega) (by decide) ?_
  refine r_aload_n dX2_seat_28 rfl ?_
  refine r_getR dX2_seat_29 fl_X2_18 (ly_1 hE) rfl ?_
  refine r_aload_n dX2_seat_32 rfl ?_
  refine r_getI dX2_seat_33 fl_X2_33 (ly_1 hE) rfl ?_
  refine r_rw (y := nI n) h5 ?_
  refine r_iload_n dX2_seat_36 rfl ?_
  refine r_iastN dX2_seat_37 (ly_14 hE) (by omega) (by decide) ?_
  refine r_aload_n dX2_seat_38 rfl ?_
  refine r_getR dX2_seat_39 fl_X2_21 (ly_1 hE) rfl ?_
  refine r_aload_n dX2_seat_42 rfl ?_
  refine r_getI dX2_seat_43 fl_X2_33 (ly_1 hE) rfl ?_
  refine r_rw (y := nI n) h5 ?_
  refine r_iload_n dX2_seat_46 rfl ?_
  refine r_iastN dX2_seat_47 (ly_15 hE) (by omega) (by decide) ?_
  refine r_aload_n dX2_seat_48 rfl ?_
  refine r_getR dX2_seat_49 fl_X2_24 (ly_1 hE) rfl ?_
  refine r_aload_n dX2_seat_52 rfl ?_
  refine r_getI dX2_seat_53 fl_X2_33 (ly_1 hE) rfl ?_
  refine r_rw (y := nI n) h5 ?_
  refine r_iconst (v := 0) dX2_seat_56 rfl ?_
  refine r_iastN dX2_seat_57 (ly_16 hE) (by omega) (by decide) ?_
  refine r_aload_n dX2_seat_58 rfl ?_
  refine r_dup dX2_seat_59 rfl ?_
  refine r_getI dX2_seat_60 fl_X2_33 (ly_1 hE) rfl ?_
  refine r_rw (y := nI n) h5 ?_
  refine r_iconst (v := 1) dX2_seat_63 rfl ?_
  refine r_iadd dX2_seat_64 ?_
  refine r_rw (y := nI (n + 1)) (nI_1 n) ?_
  refine r_putI dX2_seat_65 fl_X2_33 fp_2_5 (ly_1 hE) rfl rfl rfl ?_
  refine r_aload_n dX2_seat_68 rfl ?_
  refine r_getI dX2_seat_69 fl_X2_33 (ly_1 hE) rfl ?_
  refine r_rw (y := nI (n + 1)) rfl ?_
  refine r_iconst (v := 1) dX2_seat_72 rfl ?_
  refine r_isub dX2_seat_73 ?_
  refine r_rw (y := nI n) (nI_pred n) ?_
  refine r_ireturn dX2_seat_74 rfl rfl ?_
  exact h
set_option maxRecDepth 100000 in
set_option maxHeartbeats 4000000 in
theorem op_pair (hE : hM E) (hW : WfS S T n z) (kd nr an : Int32) : ∃ (r : Int32) (S' : mA) (n' : Nat), WfS S' T n' z ∧
    (∀ (A : mA) (L : mJ) (Ph : mP), RC A S T n z → (∀ A', RC A' S' T n' z → (∀ k, 38 ≤ k → A' k = A k) → (∀ s, s < 4 → A' (8 + s) = A (8 + s) ∧ A' (34 + s) = A (34 + s)) → Ph (some (.int r)) A' L) → qC E mm_X6_pair (d + 1) [.ref 0, .int kd, .int nr, .int an] A L Ph) ∧
    (∀ (A : mA) (L : mJ) (Ph : mP), RM A S T → (∀ A', RM A' S' T → (∀ k, k < 38 → A' k = A k) → Ph (some (.int r)) A' L) → qC E mm_X7_pair (d + 1) [.ref 38, .int kd, .int nr, .int an] A L Ph) ∧ S' 53 = S 53 ∧ S' 54 = S 54 ∧ S' 55 = S 55 := by
  have hEc := hE.c
  have hN := hW.2.2.2.2.1
  have hn := hN.1
  have h60 := hN.2.1
  by_cases hb : (∃ k, k < 6 ∧ kd = nI k) ∧ (∃ q, q < 10 ∧ nr = nI q) ∧ ∃ a, a < 100 ∧ an = nI a
  · obtain ⟨⟨k, hk, rfl⟩, ⟨q, hq, rfl⟩, ⟨a, ha, rfl⟩⟩ := hb
    by_cases h5 : n = 5
    · subst h5
      refine ⟨-4, S, 5, hW, fun A L Ph hR hk' => ?_, fun A L Ph hR hk' => ?_, rfl, rfl, rfl⟩
      · have K := hk' A hR (fun _ _ => rfl) (fun _ _ => ⟨rfl, rfl⟩)
        have h5 : A 1 5 = 5 := hR.1.2.2.1.trans h60
        refine qC.enter (by decide) (Nat.le_of_ble_eq_true rfl) ?_
        refine r_iload_n dX6_pair_0 rfl ?_
        refine r_bipush (v := 6) dX6_pair_1 rfl ?_
        refine r_callS2 dX6_pair_3 lk_X6_100 (Nat.le_of_ble_eq_true rfl) (win_t (lim := 6) rfl (by decide) hk ?_)
        refine r_if_eq (tgt := 27) dX6_pair_6 (by decide) (fun hqz => absurd hqz (by decide)) (fun _ => ?_)
        refine r_iload_n dX6_pair_9 rfl ?_
        refine r_bipush (v := 10) dX6_pair_10 rfl ?_
        refine r_callS2 dX6_pair_12 lk_X6_100 (Nat.le_of_ble_eq_true rfl) (win_t (lim := 10) rfl (by decide) hq ?_)
        refine r_if_eq (tgt := 27) dX6_pair_15 (by decide) (fun hqz => absurd hqz (by decide)) (fun _ => ?_)
        refine r_iload_n dX6_pair_18 rfl ?_
        refine r_bipush (v := 100) dX6_pair_19 rfl ?_
        refine r_callS2 dX6_pair_21 lk_X6_100 (Nat.le_of_ble_eq_true rfl) (win_t (lim := 100) rfl (by decide) ha ?_)
        refine r_if_ne (tgt := 30) dX6_pair_24 (by decide) (fun _ => ?_) (fun hqz => absurd hqz (by decide))
        refine r_aload_n dX6_pair_30 rfl ?_
        refine r_getR dX6_pair_31 fl_X6_10 (ly_0 hEc) rfl ?_
        refine r_iload_n dX6_pair_34 rfl ?_
        refine r_iload_n dX6_pair_35 rfl ?_
        refine r_iload_n dX6_pair_36 rfl ?_
        refine r_callV3 dX6_pair_37 lk_X6_107 (ly_1 hEc) rfl (Nat.le_of_ble_eq_true rfl) (seat_f hEc h5 ?_)
        refine r_ireturn dX6_pair_40 rfl rfl ?_
        exact K
      · have K := hk' A hR (fun _ _ => rfl)
        have h5 : A 39 60 = 5 := by rw [hR.1]; exact h60
        refine qC.enter (by decide) (Nat.le_of_ble_eq_true rfl) ?_
        refine r_iload_n dX7_pair_0 rfl ?_
        refine r_iconst (v := 0) dX7_pair_1 rfl ?_
        refine r_iconst (v := 5) dX7_pair_2 rfl ?_
        refine r_callS3 dX7_pair_3 lk_X7_78 (Nat.le_of_ble_eq_true rfl) (in_t (lim := 6) rfl rfl (by decide) hk ?_)
        refine r_if_eq (tgt := 29) dX7_pair_6 (by decide) (fun hqz => absurd hqz (by decide)) (fun _ => ?_)
        refine r_iload_n dX7_pair_9 rfl ?_
        refine r_iconst (v := 0) dX7_pair_10 rfl ?_
        refine r_bipush (v := 9) dX7_pair_11 rfl ?_
        refine r_callS3 dX7_pair_13 lk_X7_78 (Nat.le_of_ble_eq_true rfl) (in_t (lim := 10) rfl rfl (by decide) hq ?_)
        refine r_if_eq (tgt := 29) dX7_pair_16 (by decide) (fun hqz => absurd hqz (by decide)) (fun _ => ?_)
        refine r_iload_n dX7_pair_19 rfl ?_
        refine r_iconst (v := 0) dX7_pair_20 rfl ?_
        refine r_bipush (v := 99) dX7_pair_21 rfl ?_
        refine r_callS3 dX7_pair_23 lk_X7_78 (Nat.le_of_ble_eq_true rfl) (in_t (lim := 100) rfl rfl (by decide) ha ?_)
        refine r_if_ne (tgt := 32) dX7_pair_26 (by decide) (fun _ => ?_) (fun hqz => absurd hqz (by decide))
        refine r_aload_n dX7_pair_32 rfl ?_
        refine r_callV0 dX7_pair_33 lk_X7_94 (ly_38 hE) rfl (Nat.le_of_ble_eq_true rfl) (sp_X7_many hE ?_)
        refine r_rw (y := 5) h5 ?_
        refine r_iconst (v := 5) dX7_pair_36 rfl ?_
        refine r_icmp_ne (tgt := 43) dX7_pair_37 (by decide) (fun hqz => absurd (by decide) hqz) (fun _ => ?_)
        refine r_bipush (v := (-4)) dX7_pair_40 rfl ?_
        refine r_ireturn dX7_pair_42 rfl rfl ?_
        exact K
    · have hn5 : n < 5 := by omega
      have e39 : ∀ X : mA, va_up X 39 (addN (X 39) n k q a) 39 = addN (X 39) n k q a := fun X => va_up_eq
      refine ⟨nI n, va_up S 39 (addN (S 39) n k q a), n + 1, hW.now (fun k h => va_up_no h) (by rw [e39]; exact hN.add hn5 hk hq ha), fun A L Ph hR hk' => ?_, fun A L Ph hR hk' => ?_, va_up_no (by decide), va_up_no (by decide), va_up_no (by decide)⟩
      · have K := hk' (addC A n k q a) (hR.now (fun k h => va_up_no h) addC_fr (by rw [e39]; exact hR.1.add hn5)) (Fr.hi addC_fr (by decide)) (fun s hs => ⟨addC_fr _ (by simp; omega), addC_fr _ (by simp; omega)⟩)
        have h5 : A 1 5 = nI n := hR.1.2.2.1.trans h60
        refine qC.enter (by decide) (Nat.le_of_ble_eq_true rfl) ?_
        refine r_iload_n dX6_pair_0 rfl ?_
        refine r_bipush (v := 6) dX6_pair_1 rfl ?_
        refine r_callS2 dX6_pair_3 lk_X6_100 (Nat.le_of_ble_eq_true rfl) (win_t (lim := 6) rfl (by decide) hk ?_)
        refine r_if_eq (tgt := 27) dX6_pair_6 (by decide) (fun hqz => absurd hqz (by decide)) (fun _ => ?_)
        refine r_iload_n dX6_pair_9 rfl ?_
        refine r_bipush (v := 10) dX6_pair_10 rfl ?_
        refine r_callS2 dX6_pair_12 lk_X6_100 (Nat.le_of_ble_eq_true rfl) (win_t (lim := 10) rfl (by decide) hq ?_)
        refine r_if_eq (tgt := 27) dX6_pair_15 (by decide) (fun hqz => absurd hqz (by decide)) (fun _ => ?_)
        refine r_iload_n dX6_pair_18 rfl ?_
        refine r_bipush (v := 100) dX6_pair_19 rfl ?_
        refine r_callS2 dX6_pair_21 lk_X6_100 (Nat.le_of_ble_eq_true rfl) (win_t (lim := 100) rfl (by decide) ha ?_)
        refine r_if_ne (tgt := 30) dX6_pair_24 (by decide) (fun _ => ?_) (fun hqz => absurd hqz (by decide))
        refine r_aload_n dX6_pair_30 rfl ?_
        refine r_getR dX6_pair_31 fl_X6_10 (ly_0 hEc) rfl ?_
        refine r_iload_n dX6_pair_34 rfl ?_
        refine r_iload_n dX6_pair_35 rfl ?_
        refine r_iload_n dX6_pair_36 rfl ?_
        refine r_callV3 dX6_pair_37 lk_X6_107 (ly_1 hEc) rfl (Nat.le_of_ble_eq_true rfl) (seat_t hEc hn5 h5 ?_)
        refine r_ireturn dX6_pair_40 rfl rfl ?_
        exact K
      · have h6 : A 39 60 = nI n := by rw [hR.1]; exact h60
        have fr : Fr [39] A (s2 (s2 (s2 (s2 (s2 A 39 (40 + 4 * n) (nI k)) 39 (41 + 4 * n) (nI q)) 39 (42 + 4 * n) (nI a)) 39 (43 + 4 * n) 0) 39 60 (nI (n + 1))) := (Fr.s2 (by decide)).tr ((Fr.s2 (by decide)).tr ((Fr.s2 (by decide)).tr ((Fr.s2 (by decide)).tr (Fr.s2 (by decide)))))
        have K := hk' _ (hR.now (fun k h => va_up_no h) fr (by rw [e39, s2_eq, s2_eq, s2_eq, s2_eq, s2_eq, hR.1]; rfl)) (Fr.lo fr (by decide))
        refine qC.enter (by decide) (Nat.le_of_ble_eq_true rfl) ?_
        refine r_iload_n dX7_pair_0 rfl ?_
        refine r_iconst (v := 0) dX7_pair_1 rfl ?_
        refine r_iconst (v := 5) dX7_pair_2 rfl ?_
        refine r_callS3 dX7_pair_3 lk_X7_78 (Nat.le_of_ble_eq_true rfl) (in_t (lim := 6) rfl rfl (by decide) hk ?_)
        refine r_if_eq (tgt := 29) dX7_pair_6 (by decide) (fun hqz => absurd hqz (by decide)) (fun _ => ?_)
        refine r_iload_n dX7_pair_9 rfl ?_
        refine r_iconst (v := 0) dX7_pair_10 rfl ?_
        refine r_bipush (v := 9) dX7_pair_11 rfl ?_
        refine r_callS3 dX7_pair_13 lk_X7_78 (Nat.le_of_ble_eq_true rfl) (in_t (lim := 10) rfl rfl (by decide) hq ?_)
        refine r_if_eq (tgt := 29) dX7_pair_16 (by decide) (fun hqz => absurd hqz (by decide)) (fun _ => ?_)
        refine r_iload_n dX7_pair_19 rfl ?_
        refine r_iconst (v := 0) dX7_pair_20 rfl ?_
        refine r_bipush (v := 99) dX7_pair_21 rfl ?_
        refine r_callS3 dX7_pair_23 lk_X7_78 (Nat.le_of_ble_eq_true rfl) (in_t (lim := 100) rfl rfl (by decide) ha ?_)
        refine r_if_ne (tgt := 32) dX7_pair_26 (by decide) (fun _ => ?_) (fun hqz => absurd hqz (by decide))
        refine r_aload_n dX7_pair_32 rfl ?_
        refine r_callV0 dX7_pair_33 lk_X7_94 (ly_38 hE) rfl (Nat.le_of_ble_eq_true rfl) (sp_X7_many hE ?_)
        refine r_rw (y := nI n) h6 ?_
        refine r_iconst (v := 5) dX7_pair_36 rfl ?_
        refine r_icmp_ne (tgt := 43) dX7_pair_37 (by decide) (fun _ => ?_) (fun hqz => absurd hqz (fun z => by have := (nI_eq (by omega) (by decide)).mp (show nI n = nI 5 from z); omega))
        refine r_aload_n dX7_pair_43 rfl ?_
        refine r_callV0 dX7_pair_44 lk_X7_94 (ly_38 hE) rfl (Nat.le_of_ble_eq_true rfl) (sp_X7_many hE ?_)
        refine r_rw (y := nI n) h6 ?_
        refine r_istore (loc' := [(4, .int (nI n)), (0, .ref 38), (1, .int (nI k)), (2, .int (nI q)), (3, .int (nI a))]) dX7_pair_47 (by decide) rfl ?_
        refine r_aload_n dX7_pair_49 rfl ?_
        refine r_getR dX7_pair_50 fl_X7_7 (ly_38 hE) rfl ?_
        refine r_bipush (v := 40) dX7_pair_53 rfl ?_
        refine r_iconst (v := 4) dX7_pair_55 rfl ?_
        refine r_iload dX7_pair_56 rfl ?_
        refine r_imul dX7_pair_58 ?_
        refine r_iadd dX7_pair_59 ?_
        refine r_rw (y := nI (40 + 4 * n)) (show nI 40 + nI 4 * nI n = _ by rw [pk_mul, nI_add]) ?_
        refine r_iload_n dX7_pair_60 rfl ?_
        refine r_iastN dX7_pair_61 (ly_39 hE) (by omega) (by decide) ?_
        refine r_aload_n dX7_pair_62 rfl ?_
        refine r_getR dX7_pair_63 fl_X7_7 (ly_38 hE) rfl ?_
        refine r_bipush (v := 40) dX7_pair_66 rfl ?_
        refine r_iconst (v := 4) dX7_pair_68 rfl ?_
        refine r_iload dX7_pair_69 rfl ?_
        refine r_imul dX7_pair_71 ?_
        refine r_iadd dX7_pair_72 ?_
        refine r_iconst (v := 1) dX7_pair_73 rfl ?_
        refine r_iadd dX7_pair_74 ?_
        refine r_rw (y := nI (41 + 4 * n)) (show nI 40 + nI 4 * nI n + nI 1 = _ by rw [pk_mul, nI_add, nI_add]; congr 1; omega) ?_
        refine r_iload_n dX7_pair_75 rfl ?_
        refine r_iastN dX7_pair_76 (ly_39 hE) (by omega) (by decide) ?_
        refine r_aload_n dX7_pair_77 rfl ?_
        refine r_getR dX7_pair_78 fl_X7_7 (ly_38 hE) rfl ?_
        refine r_bipush (v := 40) dX7_pair_81 rfl ?_
        refine r_iconst (v := 4) dX7_pair_83 rfl ?_
        refine r_iload dX7_pair_84 rfl ?_
        refine r_imul dX7_pair_86 ?_
        refine r_iadd dX7_pair_87 ?_
        refine r_iconst (v := 2) dX7_pair_88 rfl ?_
        refine r_iadd dX7_pair_89 ?_
        refine r_rw (y := nI (42 + 4 * n)) (show nI 40 + nI 4 * nI n + nI 2 = _ by rw [pk_mul, nI_add, nI_add]; congr 1; omega) ?_
        refine r_iload_n dX7_pair_90 rfl ?_
        refine r_iastN dX7_pair_91 (ly_39 hE) (by omega) (by decide) ?_
        refine r_aload_n dX7_pair_92 rfl ?_
        refine r_getR dX7_pair_93 fl_X7_7 (ly_38 hE) rfl ?_
        refine r_bipush (v := 40) dX7_pair_96 rfl ?_
        refine r_iconst (v := 4) dX7_pair_98 rfl ?_
        refine r_iload dX7_pair_99 rfl ?_
        refine r_imul dX7_pair_101 ?_
        refine r_iadd dX7_pair_102 ?_
        refine r_iconst (v := 3) dX7_pair_103 rfl ?_
        refine r_iadd dX7_pair_104 ?_
        refine r_rw (y := nI (43 + 4 * n)) (show nI 40 + nI 4 * nI n + nI 3 = _ by rw [pk_mul, nI_add, nI_add]; congr 1; omega) ?_
        refine r_iconst (v := 0) dX7_pair_105 rfl ?_
        refine r_iastN dX7_pair_106 (ly_39 hE) (by omega) (by decide) ?_
        refine r_aload_n dX7_pair_107 rfl ?_
        refine r_getR dX7_pair_108 fl_X7_7 (ly_38 hE) rfl ?_
        refine r_bipush (v := (nI 60)) dX7_pair_111 rfl ?_
        refine r_dup2 dX7_pair_113 rfl rfl ?_
        refine r_ialdN dX7_pair_114 (ly_39 hE) (by decide) (by decide) ?_
        refine r_rw (y := nI n) (by rw [s2_nj (fun _ => by omega), s2_nj (fun _ => by omega), s2_nj (fun _ => by omega), s2_nj (fun _ => by omega)]; exact h6) ?_
        refine r_iconst (v := 1) dX7_pair_115 rfl ?_
        refine r_iadd dX7_pair_116 ?_
        refine r_rw (y := nI (n + 1)) (nI_1 n) ?_
        refine r_iastN dX7_pair_117 (ly_39 hE) (by decide) (by decide) ?_
        refine r_iload dX7_pair_118 rfl ?_
        refine r_ireturn dX7_pair_120 rfl rfl ?_
        exact K
  · refine ⟨-2, S, n, hW, fun A L Ph hR hk' => ?_, fun A L Ph hR hk' => ?_, rfl, rfl, rfl⟩
    · have K := hk' A hR (fun _ _ => rfl) (fun _ _ => ⟨rfl, rfl⟩)
      refine qC.enter (by decide) (Nat.le_of_ble_eq_true rfl) ?_
      refine r_iload_n dX6_pair_0 rfl ?_
      refine r_bipush (v := 6) dX6_pair_1 rfl ?_
      refine r_callS2 dX6_pair_3 lk_X6_100 (Nat.le_of_ble_eq_true rfl) (sp_X6_within 6 rfl (by decide) (fun k hk e1 => ?_) (fun _ => ?_))
      · refine r_if_eq (tgt := 27) dX6_pair_6 (by decide) (fun hqz => absurd hqz (by decide)) (fun _ => ?_)
        refine r_iload_n dX6_pair_9 rfl ?_
        refine r_bipush (v := 10) dX6_pair_10 rfl ?_
        refine r_callS2 dX6_pair_12 lk_X6_100 (Nat.le_of_ble_eq_true rfl) (sp_X6_within 10 rfl (by decide) (fun q hq e2 => ?_) (fun _ => ?_))
        · refine r_if_eq (tgt := 27) dX6_pair_15 (by decide) (fun hqz => absurd hqz (by decide)) (fun _ => ?_)
          refine r_iload_n dX6_pair_18 rfl ?_
          refine r_bipush (v := 100) dX6_pair_19 rfl ?_
          refine r_callS2 dX6_pair_21 lk_X6_100 (Nat.le_of_ble_eq_true rfl) (win_f 100 rfl (by decide) (fun a ha e3 => hb ⟨⟨k, hk, e1⟩, ⟨q, hq, e2⟩, ⟨a, ha, e3⟩⟩) ?_)
          refine r_if_ne (tgt := 30) dX6_pair_24 (by decide) (fun hqz => absurd (by decide) hqz) (fun _ => ?_)
          refine r_bipush (v := (-2)) dX6_pair_27 rfl ?_
          refine r_ireturn dX6_pair_29 rfl rfl ?_
          exact K
        · refine r_if_eq (tgt := 27) dX6_pair_15 (by decide) (fun _ => ?_) (fun hqz => absurd (by decide) hqz)
          refine r_bipush (v := (-2)) dX6_pair_27 rfl ?_
          refine r_ireturn dX6_pair_29 rfl rfl ?_
          exact K
      · refine r_if_eq (tgt := 27) dX6_pair_6 (by decide) (fun _ => ?_) (fun hqz => absurd (by decide) hqz)
        refine r_bipush (v := (-2)) dX6_pair_27 rfl ?_
        refine r_ireturn dX6_pair_29 rfl rfl ?_
        exact K
    · have K := hk' A hR (fun _ _ => rfl)
      refine qC.enter (by decide) (Nat.le_of_ble_eq_true rfl) ?_
      refine r_iload_n dX7_pair_0 rfl ?_
      refine r_iconst (v := 0) dX7_pair_1 rfl ?_
      refine r_iconst (v := 5) dX7_pair_2 rfl ?_
      refine r_callS3 dX7_pair_3 lk_X7_78 (Nat.le_of_ble_eq_true rfl) (sp_isIn0 6 rfl rfl (by decide) (fun k hk e1 => ?_) (fun _ => ?_))
      · refine r_if_eq (tgt := 29) dX7_pair_6 (by decide) (fun hqz => absurd hqz (by decide)) (fun _ => ?_)
        refine r_iload_n dX7_pair_9 rfl ?_
        refine r_iconst (v := 0) dX7_pair_10 rfl ?_
        refine r_bipush (v := 9) dX7_pair_11 rfl ?_
        refine r_callS3 dX7_pair_13 lk_X7_78 (Nat.le_of_ble_eq_true rfl) (sp_isIn0 10 rfl rfl (by decide) (fun q hq e2 => ?_) (fun _ => ?_))
        · refine r_if_eq (tgt := 29) dX7_pair_16 (by decide) (fun hqz => absurd hqz (by decide)) (fun _ => ?_)
          refine r_iload_n dX7_pair_19 rfl ?_
          refine r_iconst (v := 0) dX7_pair_20 rfl ?_
          refine r_bipush (v := 99) dX7_pair_21 rfl ?_
          refine r_callS3 dX7_pair_23 lk_X7_78 (Nat.le_of_ble_eq_true rfl) (in_f 100 rfl rfl (by decide) (fun a ha e3 => hb ⟨⟨k, hk, e1⟩, ⟨q, hq, e2⟩, ⟨a, ha, e3⟩⟩) ?_)
          refine r_if_ne (tgt := 32) dX7_pair_26 (by decide) (fun hqz => absurd (by decide) hqz) (fun _ => ?_)
          refine r_bipush (v := (-2)) dX7_pair_29 rfl ?_
          refine r_ireturn dX7_pair_31 rfl rfl ?_
          exact K
        · refine r_if_eq (tgt := 29) dX7_pair_16 (by decide) (fun _ => ?_) (fun hqz => absurd (by decide) hqz)
          refine r_bipush (v := (-2)) dX7_pair_29 rfl ?_
          refine r_ireturn dX7_pair_31 rfl rfl ?_
          exact K
      · refine r_if_eq (tgt := 29) dX7_pair_6 (by decide) (fun _ => ?_) (fun hqz => absurd (by decide) hqz)
        refine r_bipush (v := (-2)) dX7_pair_29 rfl ?_
        refine r_ireturn dX7_pair_31 rfl rfl ?_
        exact K
theorem op_pair' (hE : hM E) (hW : WfS S T n z) (kd nr an : Int32) : OpOK E (d + 1) mm_X6_pair mm_X7_pair [.int kd, .int nr, .int an] S T n z := by
  obtain ⟨r, S', n', h1, h2, h3, -⟩ := op_pair (d := d) hE hW kd nr an
  exact ⟨.int r, S', T, n', z, ⟨_, rfl⟩, h1, fun A L Ph hR hk => h2 A L Ph hR (fun A' a b _ => hk A' L a b), fun A L Ph hR hk => h3 A L Ph hR (fun A' a b => hk A' L a b)⟩
set_option maxRecDepth 100000 in
set_option maxHeartbeats 4000000 in
theorem put_f (hE : hC E) {b : Int32} (h5 : A 4 2 = 160) (h : Ph (some (.int 0)) A L) : qC E mm_X1_put (d + 1) [.ref 4, .int b] A L Ph := by
  refine qC.enter (by decide) (Nat.le_of_ble_eq_true rfl) ?_
  refine r_aload_n dX1_put_0 rfl ?_
  refine r_getI dX1_put_1 fl_X1_19 (ly_4 hE) rfl ?_
  refine r_rw (y := 160) h5 ?_
  refine r_sipush (v := 160) dX1_put_4 rfl ?_
  refine r_callN2 dX1_put_7 lk_X1_23 (Nat.le_of_ble_eq_true rfl) (win_f 160 rfl (by decide) (fun j hj e => by have := (nI_eq (by decide) (by omega)).mp (show nI 160 = nI j from e); omega) ?_)
  refine r_if_ne (tgt := 15) dX1_put_10 (by decide) (fun hqz => absurd (by decide) hqz) (fun _ => ?_)
  refine r_iconst (v := 0) dX1_put_13 rfl ?_
  refine r_ireturn dX1_put_14 rfl (by decide) ?_
  exact h
set_option maxRecDepth 100000 in
set_option maxHeartbeats 4000000 in
theorem put_t (hE : hC E) {b : Nat} (hz : z < 160) (h5 : A 4 2 = nI z) (h : Ph (some (.int 1)) (s2 (s2 A 25 z (nI b)) 4 2 (nI (z + 1))) L) : qC E mm_X1_put (d + 1) [.ref 4, .int (nI b)] A L Ph := by
  refine qC.enter (by decide) (Nat.le_of_ble_eq_true rfl) ?_
  refine r_aload_n dX1_put_0 rfl ?_
  refine r_getI dX1_put_1 fl_X1_19 (ly_4 hE) rfl ?_
  refine r_rw (y := nI z) h5 ?_
  refine r_sipush (v := 160) dX1_put_4 rfl ?_
  refine r_callN2 dX1_put_7 lk_X1_23 (Nat.le_of_ble_eq_true rfl) (win_t (lim := 160) rfl (by decide) hz ?_)
  refine r_if_ne (tgt := 15) dX1_put_10 (by decide) (fun _ => ?_) (fun hqz => absurd hqz (by decide))
  refine r_aload_n dX1_put_15 rfl ?_
  refine r_getR dX1_put_16 fl_X1_9 (ly_4 hE) rfl ?_
  refine r_aload_n dX1_put_19 rfl ?_
  refine r_getI dX1_put_20 fl_X1_19 (ly_4 hE) rfl ?_
  refine r_rw (y := nI z) h5 ?_
  refine r_iload_n dX1_put_23 rfl ?_
  refine r_iastN dX1_put_24 (ly_25 hE) (by omega) (by decide) ?_
  refine r_aload_n dX1_put_25 rfl ?_
  refine r_dup dX1_put_26 rfl ?_
  refine r_getI dX1_put_27 fl_X1_19 (ly_4 hE) rfl ?_
  refine r_rw (y := nI z) h5 ?_
  refine r_iconst (v := 1) dX1_put_30 rfl ?_
  refine r_iadd dX1_put_31 ?_
  refine r_rw (y := nI (z + 1)) (nI_1 z) ?_
  refine r_putI dX1_put_32 fl_X1_19 fp_1_2 (ly_4 hE) rfl rfl rfl ?_
  refine r_iconst (v := 1) dX1_put_35 rfl ?_
  refine r_ireturn dX1_put_36 rfl (by decide) ?_
  exact h
set_option maxRecDepth 100000 in
set_option maxHeartbeats 4000000 in
theorem op_feed (hE : hM E) (hW : WfS S T n z) (b : Int32) : OpOK E (d + 2) mm_X6_feed mm_X7_feed [.int b] S T n z := by
  have hEc := hE.c
  obtain ⟨hz, h4, -⟩ := hW.2.2.2.2.2.2.1
  rcases pk_cases b 256 with ⟨b, hb, rfl⟩ | hv
  · by_cases h160 : z = 160
    · subst h160
      refine ⟨.int (-4), S, T, n, 160, ⟨_, rfl⟩, hW, fun A L Ph hR hk => ?_, fun A L Ph hR hk => ?_⟩
      · have K := hk A L hR (fun _ _ => rfl)
        have h5 : A 4 2 = 160 := hR.2.2.2.2.1.1.trans h4
        refine qC.enter (by decide) (Nat.le_of_ble_eq_true rfl) ?_
        refine r_iload_n dX6_feed_0 rfl ?_
        refine r_sipush (v := 256) dX6_feed_1 rfl ?_
        refine r_callS2 dX6_feed_4 lk_X6_100 (Nat.le_of_ble_eq_true rfl) (win_t (lim := 256) rfl (by decide) hb ?_)
        refine r_if_ne (tgt := 13) dX6_feed_7 (by decide) (fun _ => ?_) (fun hqz => absurd hqz (by decide))
        refine r_aload_n dX6_feed_13 rfl ?_
        refine r_getR dX6_feed_14 fl_X6_31 (ly_0 hEc) rfl ?_
        refine r_iload_n dX6_feed_17 rfl ?_
        refine r_callV1 dX6_feed_18 lk_X6_68 (ly_4 hEc) rfl (Nat.le_of_ble_eq_true rfl) (put_f hEc h5 ?_)
        refine r_if_eq (tgt := 34) dX6_feed_21 (by decide) (fun _ => ?_) (fun hqz => absurd (by decide) hqz)
        refine r_bipush (v := (-4)) dX6_feed_34 rfl ?_
        refine r_ireturn dX6_feed_36 rfl rfl ?_
        exact K
      · have K := hk A L hR (fun _ _ => rfl)
        have h5 : A 38 4 = 160 := hR.2.2.2.1.trans h4
        refine qC.enter (by decide) (Nat.le_of_ble_eq_true rfl) ?_
        refine r_iload_n dX7_feed_0 rfl ?_
        refine r_iconst (v := 0) dX7_feed_1 rfl ?_
        refine r_sipush (v := 255) dX7_feed_2 rfl ?_
        refine r_callS3 dX7_feed_5 lk_X7_78 (Nat.le_of_ble_eq_true rfl) (in_t (lim := 256) rfl rfl (by decide) hb ?_)
        refine r_if_ne (tgt := 14) dX7_feed_8 (by decide) (fun _ => ?_) (fun hqz => absurd hqz (by decide))
        refine r_aload_n dX7_feed_14 rfl ?_
        refine r_getI dX7_feed_15 fl_X7_119 (ly_38 hE) rfl ?_
        refine r_rw (y := 160) h5 ?_
        refine r_sipush (v := 160) dX7_feed_18 rfl ?_
        refine r_icmp_ne (tgt := 27) dX7_feed_21 (by decide) (fun hqz => absurd (by decide) hqz) (fun _ => ?_)
        refine r_bipush (v := (-4)) dX7_feed_24 rfl ?_
        refine r_ireturn dX7_feed_26 rfl rfl ?_
        exact K
    · have hz' : z < 160 := by omega
      refine ⟨.int (nI (z + 1)), fedS S z b, T, n, z + 1, ⟨_, rfl⟩, hW.fed hz' hb, fun A L Ph hR hk => ?_, fun A L Ph hR hk => ?_⟩
      · have fr : Fr [4, 25] A (s2 (s2 A 25 z (nI b)) 4 2 (nI (z + 1))) := (Fr.s2 (by decide)).tr (Fr.s2 (by decide))
        have K := hk _ L hR.fed (Fr.hi fr (by decide))
        have h5 : A 4 2 = nI z := hR.2.2.2.2.1.1.trans h4
        refine qC.enter (by decide) (Nat.le_of_ble_eq_true rfl) ?_
        refine r_iload_n dX6_feed_0 rfl ?_
        refine r_sipush (v := 256) dX6_feed_1 rfl ?_
        refine r_callS2 dX6_feed_4 lk_X6_100 (Nat.le_of_ble_eq_true rfl) (win_t (lim := 256) rfl (by decide) hb ?_)
        refine r_if_ne (tgt := 13) dX6_feed_7 (by decide) (fun _ => ?_) (fun hqz => absurd hqz (by decide))
        refine r_aload_n dX6_feed_13 rfl ?_
        refine r_getR dX6_feed_14 fl_X6_31 (ly_0 hEc) rfl ?_
        refine r_iload_n dX6_feed_17 rfl ?_
        refine r_callV1 dX6_feed_18 lk_X6_68 (ly_4 hEc) rfl (Nat.le_of_ble_eq_true rfl) (put_t hEc hz' h5 ?_)
        refine r_if_eq (tgt := 34) dX6_feed_21 (by decide) (fun hqz => absurd hqz (by decide)) (fun _ => ?_)
        refine r_aload_n dX6_feed_24 rfl ?_
        refine r_getR dX6_feed_25 fl_X6_31 (ly_0 hEc) rfl ?_
        refine r_getI dX6_feed_28 fl_X6_144 (ly_4 hEc) rfl ?_
        refine r_rw (y := nI (z + 1)) s2_same ?_
        refine r_goto (tgt := 36) dX6_feed_31 (by decide) ?_
        refine r_ireturn dX6_feed_36 rfl rfl ?_
        exact K
      · have fr : Fr [38, 41] A (s2 (s2 A 41 z (nI b)) 38 4 (nI (z + 1))) := (Fr.s2 (by decide)).tr (Fr.s2 (by decide))
        have K := hk _ L hR.fed (Fr.lo fr (by decide))
        have h5 : A 38 4 = nI z := hR.2.2.2.1.trans h4
        refine qC.enter (by decide) (Nat.le_of_ble_eq_true rfl) ?_
        refine r_iload_n dX7_feed_0 rfl ?_
        refine r_iconst (v := 0) dX7_feed_1 rfl ?_
        refine r_sipush (v := 255) dX7_feed_2 rfl ?_
        refine r_callS3 dX7_feed_5 lk_X7_78 (Nat.le_of_ble_eq_true rfl) (in_t (lim := 256) rfl rfl (by decide) hb ?_)
        refine r_if_ne (tgt := 14) dX7_feed_8 (by decide) (fun _ => ?_) (fun hqz => absurd hqz (by decide))
        refine r_aload_n dX7_feed_14 rfl ?_
        refine r_getI dX7_feed_15 fl_X7_119 (ly_38 hE) rfl ?_
        refine r_rw (y := nI z) h5 ?_
        refine r_sipush (v := 160) dX7_feed_18 rfl ?_
        refine r_icmp_ne (tgt := 27) dX7_feed_21 (by decide) (fun _ => ?_) (fun hqz => absurd hqz (fun e => h160 ((nI_eq (by omega) (by decide)).mp (show nI z = nI 160 from e))))
        refine r_aload_n dX7_feed_27 rfl ?_
        refine r_getR dX7_feed_28 fl_X7_16 (ly_38 hE) rfl ?_
        refine r_aload_n dX7_feed_31 rfl ?_
        refine r_getI dX7_feed_32 fl_X7_119 (ly_38 hE) rfl ?_
        refine r_rw (y := nI z) h5 ?_
        refine r_iload_n dX7_feed_35 rfl ?_
        refine r_iastN dX7_feed_36 (ly_41 hE) (by omega) (by decide) ?_
        refine r_aload_n dX7_feed_37 rfl ?_
        refine r_dup dX7_feed_38 rfl ?_
        refine r_getI dX7_feed_39 fl_X7_119 (ly_38 hE) rfl ?_
        refine r_rw (y := nI z) h5 ?_
        refine r_iconst (v := 1) dX7_feed_42 rfl ?_
        refine r_iadd dX7_feed_43 ?_
        refine r_rw (y := nI (z + 1)) (nI_1 z) ?_
        refine r_putI dX7_feed_44 fl_X7_119 fp_7_4 (ly_38 hE) rfl rfl rfl ?_
        refine r_aload_n dX7_feed_47 rfl ?_
        refine r_getI dX7_feed_48 fl_X7_119 (ly_38 hE) rfl ?_
        refine r_rw (y := nI (z + 1)) s2_same ?_
        refine r_ireturn dX7_feed_51 rfl rfl ?_
        exact K
  · refine ⟨.int (-2), S, T, n, z, ⟨_, rfl⟩, hW, fun A L Ph hR hk => ?_, fun A L Ph hR hk => ?_⟩
    · have K := hk A L hR (fun _ _ => rfl)
      refine qC.enter (by decide) (Nat.le_of_ble_eq_true rfl) ?_
      refine r_iload_n dX6_feed_0 rfl ?_
      refine r_sipush (v := 256) dX6_feed_1 rfl ?_
      refine r_callS2 dX6_feed_4 lk_X6_100 (Nat.le_of_ble_eq_true rfl) (win_f 256 rfl (by decide) hv ?_)
      refine r_if_ne (tgt := 13) dX6_feed_7 (by decide) (fun hqz => absurd (by decide) hqz) (fun _ => ?_)
      refine r_bipush (v := (-2)) dX6_feed_10 rfl ?_
      refine r_ireturn dX6_feed_12 rfl rfl ?_
      exact K
    · have K := hk A L hR (fun _ _ => rfl)
      refine qC.enter (by decide) (Nat.le_of_ble_eq_true rfl) ?_
      refine r_iload_n dX7_feed_0 rfl ?_
      refine r_iconst (v := 0) dX7_feed_1 rfl ?_
      refine r_sipush (v := 255) dX7_feed_2 rfl ?_
      refine r_callS3 dX7_feed_5 lk_X7_78 (Nat.le_of_ble_eq_true rfl) (in_f 256 rfl rfl (by decide) hv ?_)
      refine r_if_ne (tgt := 14) dX7_feed_8 (by decide) (fun hqz => absurd (by decide) hqz) (fun _ => ?_)
      refine r_bipush (v := (-2)) dX7_feed_11 rfl ?_
      refine r_ireturn dX7_feed_13 rfl rfl ?_
      exact K
set_option maxRecDepth 100000 in
set_option maxHeartbeats 4000000 in
theorem op_force (hE : hM E) (hW : WfS S T n z) (t : Int32) : OpOK E (d + 2) mm_X6_force mm_X7_force [.int t] S T n z := by
  have hEc := hE.c
  have hN := hW.2.2.2.2.1
  have hn := hN.1
  have hT := hW.2.1
  have h11 := hW.2.2.1
  rcases pk_cases t T with ⟨t, ht, rfl⟩ | hv
  · refine ⟨.int (S 39 62), s2 S 39 62 (nI t), T, n, z, ⟨_, rfl⟩, hW.now s2_39 (by rw [s2_eq]; exact hN.rule ht), fun A L Ph hR hk => ?_, fun A L Ph hR hk => ?_⟩
    · have K := hk (s2 A 1 7 (nI t)) L (hR.now s2_39 (Fr.s2 (by decide)) (by rw [s2_eq]; exact hR.1.rule hn)) (Fr.hi (Fr.s2 (X := [1]) (by decide)) (by decide))
      rw [← hR.1.2.2.2.2] at K
      have h4 : A 3 4 = nI T := hR.2.2.2.1.1.trans h11
      refine qC.enter (by decide) (Nat.le_of_ble_eq_true rfl) ?_
      refine r_iload_n dX6_force_0 rfl ?_
      refine r_aload_n dX6_force_1 rfl ?_
      refine r_getR dX6_force_2 fl_X6_22 (ly_0 hEc) rfl ?_
      refine r_getI dX6_force_5 fl_X6_145 (ly_3 hEc) rfl ?_
      refine r_rw (y := nI T) h4 ?_
      refine r_callS2 dX6_force_8 lk_X6_100 (Nat.le_of_ble_eq_true rfl) (win_t rfl (by omega) ht ?_)
      refine r_if_ne (tgt := 17) dX6_force_11 (by decide) (fun _ => ?_) (fun hqz => absurd hqz (by decide))
      refine r_aload_n dX6_force_17 rfl ?_
      refine r_getR dX6_force_18 fl_X6_10 (ly_0 hEc) rfl ?_
      refine r_getI dX6_force_21 fl_X6_146 (ly_1 hEc) rfl ?_
      refine r_topi (fun v24 e24 => ?_)
      refine r_istore_n (loc' := [(2, .int v24), (0, .ref 0), (1, .int (nI t))]) dX6_force_24 (by decide) rfl ?_
      refine r_aload_n dX6_force_25 rfl ?_
      refine r_getR dX6_force_26 fl_X6_10 (ly_0 hEc) rfl ?_
      refine r_iload_n dX6_force_29 rfl ?_
      refine r_putI dX6_force_30 fl_X6_146 fp_2_7 (ly_1 hEc) rfl rfl rfl ?_
      refine r_iload_n dX6_force_33 rfl ?_
      refine r_ireturn dX6_force_34 rfl rfl ?_
      subst e24
      exact K
    · have K := hk (s2 A 39 62 (nI t)) L (hR.now s2_39 (Fr.s2 (by decide)) (by rw [s2_eq, s2_eq, hR.1])) (Fr.lo (Fr.s2 (X := [39]) (by decide)) (by decide))
      rw [← hR.1] at K
      have h4 : A 38 11 = nI T := hR.2.2.2.2.1.trans h11
      refine qC.enter (by decide) (Nat.le_of_ble_eq_true rfl) ?_
      refine r_iload_n dX7_force_0 rfl ?_
      refine r_iconst (v := 0) dX7_force_1 rfl ?_
      refine r_aload_n dX7_force_2 rfl ?_
      refine r_getI dX7_force_3 fl_X7_29 (ly_38 hE) rfl ?_
      refine r_rw (y := nI T) h4 ?_
      refine r_iconst (v := 1) dX7_force_6 rfl ?_
      refine r_isub dX7_force_7 ?_
      refine r_callS3 dX7_force_8 lk_X7_78 (Nat.le_of_ble_eq_true rfl) (in_t rfl rfl (by omega) ht ?_)
      refine r_if_ne (tgt := 17) dX7_force_11 (by decide) (fun _ => ?_) (fun hqz => absurd hqz (by decide))
      refine r_aload_n dX7_force_17 rfl ?_
      refine r_getR dX7_force_18 fl_X7_7 (ly_38 hE) rfl ?_
      refine r_bipush (v := (nI 62)) dX7_force_21 rfl ?_
      refine r_ialdN dX7_force_23 (ly_39 hE) (by decide) (by decide) ?_
      refine r_topi (fun v24 e24 => ?_)
      refine r_istore_n (loc' := [(2, .int v24), (0, .ref 38), (1, .int (nI t))]) dX7_force_24 (by decide) rfl ?_
      refine r_aload_n dX7_force_25 rfl ?_
      refine r_getR dX7_force_26 fl_X7_7 (ly_38 hE) rfl ?_
      refine r_bipush (v := (nI 62)) dX7_force_29 rfl ?_
      refine r_iload_n dX7_force_31 rfl ?_
      refine r_iastN dX7_force_32 (ly_39 hE) (by decide) (by decide) ?_
      refine r_iload_n dX7_force_33 rfl ?_
      refine r_ireturn dX7_force_34 rfl rfl ?_
      subst e24
      exact K
  · refine ⟨.int (-2), S, T, n, z, ⟨_, rfl⟩, hW, fun A L Ph hR hk => ?_, fun A L Ph hR hk => ?_⟩
    · have K := hk A L hR (fun _ _ => rfl)
      have h4 : A 3 4 = nI T := hR.2.2.2.1.1.trans h11
      refine qC.enter (by decide) (Nat.le_of_ble_eq_true rfl) ?_
      refine r_iload_n dX6_force_0 rfl ?_
      refine r_aload_n dX6_force_1 rfl ?_
      refine r_getR dX6_force_2 fl_X6_22 (ly_0 hEc) rfl ?_
      refine r_getI dX6_force_5 fl_X6_145 (ly_3 hEc) rfl ?_
      refine r_rw (y := nI T) h4 ?_
      refine r_callS2 dX6_force_8 lk_X6_100 (Nat.le_of_ble_eq_true rfl) (win_f T rfl (by omega) hv ?_)
      refine r_if_ne (tgt := 17) dX6_force_11 (by decide) (fun hqz => absurd (by decide) hqz) (fun _ => ?_)
      refine r_bipush (v := (-2)) dX6_force_14 rfl ?_
      refine r_ireturn dX6_force_16 rfl rfl ?_
      exact K
    · have K := hk A L hR (fun _ _ => rfl)
      have h4 : A 38 11 = nI T := hR.2.2.2.2.1.trans h11
      refine qC.enter (by decide) (Nat.le_of_ble_eq_true rfl) ?_
      refine r_iload_n dX7_force_0 rfl ?_
      refine r_iconst (v := 0) dX7_force_1 rfl ?_
      refine r_aload_n dX7_force_2 rfl ?_
      refine r_getI dX7_force_3 fl_X7_29 (ly_38 hE) rfl ?_
      refine r_rw (y := nI T) h4 ?_
      refine r_iconst (v := 1) dX7_force_6 rfl ?_
      refine r_isub dX7_force_7 ?_
      refine r_callS3 dX7_force_8 lk_X7_78 (Nat.le_of_ble_eq_true rfl) (in_f T rfl rfl (by omega) hv ?_)
      refine r_if_ne (tgt := 17) dX7_force_11 (by decide) (fun hqz => absurd (by decide) hqz) (fun _ => ?_)
      refine r_bipush (v := (-2)) dX7_force_14 rfl ?_
      refine r_ireturn dX7_force_16 rfl rfl ?_
      exact K
end OPS2
