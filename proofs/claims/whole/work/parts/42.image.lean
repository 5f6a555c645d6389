/-! image, back, count, taken -/
section OPS9
variable {E : mE} {d : Nat} {A S : mA} {L : mJ} {Ph : mP} {T n z p r : Nat} {kd nr : Int32}
theorem cp_at {f g : Nat → Int32} {m i : Nat} (h : i < m) : va_cpy f g 0 0 m i = f i := by
  unfold va_cpy
  rw [if_pos (by omega)]
  congr 1
  omega
set_option maxRecDepth 100000 in
set_option maxHeartbeats 4000000 in
theorem bec_2 (hE : hC E) (h : ∀ A', Fr [2, 17, 18, 19, 20, 21] A A' → (∀ i, i < 40 → A' 17 i = A 12 i) → (∀ i, i < 5 → A' 18 i = A 13 i ∧ A' 19 i = A 14 i ∧ A' 20 i = A 15 i ∧ A' 21 i = A 16 i) → A' 2 5 = A 1 5 → A' 2 6 = A 1 6 → A' 2 7 = A 1 7 → Ph none A' L) : qC E mm_X2_become (d + 1) [.ref 2, .ref 1] A L Ph := by
  refine qC.enter (by decide) (Nat.le_of_ble_eq_true rfl) ?_
  refine r_aload_n dX2_become_0 rfl ?_
  refine r_getR dX2_become_1 fl_X2_9 (ly_1 hE) rfl ?_
  refine r_iconst (v := 0) dX2_become_4 rfl ?_
  refine r_aload_n dX2_become_5 rfl ?_
  refine r_getR dX2_become_6 fl_X2_9 (ly_2 hE) rfl ?_
  refine r_iconst (v := 0) dX2_become_9 rfl ?_
  refine r_bipush (v := 40) dX2_become_10 rfl ?_
  refine r_copyi (sp := 0) (dp := 0) (n := 40) dX2_become_12 lac_X2_27 (ly_12 hE) (ly_17 hE) (by decide) (by decide) (by decide) (by decide) (Nat.le_of_ble_eq_true rfl) ?_
  refine r_aload_n dX2_become_15 rfl ?_
  refine r_getR dX2_become_16 fl_X2_15 (ly_1 hE) rfl ?_
  refine r_iconst (v := 0) dX2_become_19 rfl ?_
  refine r_aload_n dX2_become_20 rfl ?_
  refine r_getR dX2_become_21 fl_X2_15 (ly_2 hE) rfl ?_
  refine r_iconst (v := 0) dX2_become_24 rfl ?_
  refine r_iconst (v := 5) dX2_become_25 rfl ?_
  refine r_copyi (sp := 0) (dp := 0) (n := 5) dX2_become_26 lac_X2_27 (ly_13 hE) (ly_18 hE) (by decide) (by decide) (by decide) (by decide) (Nat.le_of_ble_eq_true rfl) ?_
  refine r_aload_n dX2_become_29 rfl ?_
  refine r_getR dX2_become_30 fl_X2_18 (ly_1 hE) rfl ?_
  refine r_iconst (v := 0) dX2_become_33 rfl ?_
  refine r_aload_n dX2_become_34 rfl ?_
  refine r_getR dX2_become_35 fl_X2_18 (ly_2 hE) rfl ?_
  refine r_iconst (v := 0) dX2_become_38 rfl ?_
  refine r_iconst (v := 5) dX2_become_39 rfl ?_
  refine r_copyi (sp := 0) (dp := 0) (n := 5) dX2_become_40 lac_X2_27 (ly_14 hE) (ly_19 hE) (by decide) (by decide) (by decide) (by decide) (Nat.le_of_ble_eq_true rfl) ?_
  refine r_aload_n dX2_become_43 rfl ?_
  refine r_getR dX2_become_44 fl_X2_21 (ly_1 hE) rfl ?_
  refine r_iconst (v := 0) dX2_become_47 rfl ?_
  refine r_aload_n dX2_become_48 rfl ?_
  refine r_getR dX2_become_49 fl_X2_21 (ly_2 hE) rfl ?_
  refine r_iconst (v := 0) dX2_become_52 rfl ?_
  refine r_iconst (v := 5) dX2_become_53 rfl ?_
  refine r_copyi (sp := 0) (dp := 0) (n := 5) dX2_become_54 lac_X2_27 (ly_15 hE) (ly_20 hE) (by decide) (by decide) (by decide) (by decide) (Nat.le_of_ble_eq_true rfl) ?_
  refine r_aload_n dX2_become_57 rfl ?_
  refine r_getR dX2_become_58 fl_X2_24 (ly_1 hE) rfl ?_
  refine r_iconst (v := 0) dX2_become_61 rfl ?_
  refine r_aload_n dX2_become_62 rfl ?_
  refine r_getR dX2_become_63 fl_X2_24 (ly_2 hE) rfl ?_
  refine r_iconst (v := 0) dX2_become_66 rfl ?_
  refine r_iconst (v := 5) dX2_become_67 rfl ?_
  refine r_copyi (sp := 0) (dp := 0) (n := 5) dX2_become_68 lac_X2_27 (ly_16 hE) (ly_21 hE) (by decide) (by decide) (by decide) (by decide) (Nat.le_of_ble_eq_true rfl) ?_
  refine r_aload_n dX2_become_71 rfl ?_
  refine r_aload_n dX2_become_72 rfl ?_
  refine r_getI dX2_become_73 fl_X2_33 (ly_1 hE) rfl ?_
  refine r_putI dX2_become_76 fl_X2_33 fp_2_5 (ly_2 hE) rfl rfl rfl ?_
  refine r_aload_n dX2_become_79 rfl ?_
  refine r_aload_n dX2_become_80 rfl ?_
  refine r_getI dX2_become_81 fl_X2_37 (ly_1 hE) rfl ?_
  refine r_putI dX2_become_84 fl_X2_37 fp_2_6 (ly_2 hE) rfl rfl rfl ?_
  refine r_aload_n dX2_become_87 rfl ?_
  refine r_aload_n dX2_become_88 rfl ?_
  refine r_getI dX2_become_89 fl_X2_40 (ly_1 hE) rfl ?_
  refine r_putI dX2_become_92 fl_X2_40 fp_2_7 (ly_2 hE) rfl rfl rfl ?_
  refine r_return dX2_become_95 rfl ?_
  refine h _ ((Fr.up (by decide)).tr ((Fr.up (by decide)).tr ((Fr.up (by decide)).tr ((Fr.up (by decide)).tr ((Fr.up (by decide)).tr ((Fr.s2 (by decide)).tr ((Fr.s2 (by decide)).tr (Fr.s2 (by decide))))))))) (fun i hi => ?_) (fun i hi => ⟨?_, ?_, ?_, ?_⟩) ?_ ?_ ?_
  · exact cp_at hi
  · exact cp_at hi
  · exact cp_at hi
  · exact cp_at hi
  · exact cp_at hi
  · rfl
  · rfl
  · rfl
set_option maxRecDepth 100000 in
set_option maxHeartbeats 4000000 in
theorem bec_1 (hE : hC E) (h : ∀ A', Fr [1, 12, 13, 14, 15, 16] A A' → (∀ i, i < 40 → A' 12 i = A 17 i) → (∀ i, i < 5 → A' 13 i = A 18 i ∧ A' 14 i = A 19 i ∧ A' 15 i = A 20 i ∧ A' 16 i = A 21 i) → A' 1 5 = A 2 5 → A' 1 6 = A 2 6 → A' 1 7 = A 2 7 → Ph none A' L) : qC E mm_X2_become (d + 1) [.ref 1, .ref 2] A L Ph := by
  refine qC.enter (by decide) (Nat.le_of_ble_eq_true rfl) ?_
  refine r_aload_n dX2_become_0 rfl ?_
  refine r_getR dX2_become_1 fl_X2_9 (ly_2 hE) rfl ?_
  refine r_iconst (v := 0) dX2_become_4 rfl ?_
  refine r_aload_n dX2_become_5 rfl ?_
  refine r_getR dX2_become_6 fl_X2_9 (ly_1 hE) rfl ?_
  refine r_iconst (v := 0) dX2_become_9 rfl ?_
  refine r_bipush (v := 40) dX2_become_10 rfl ?_
  refine r_copyi (sp := 0) (dp := 0) (n := 40) dX2_become_12 lac_X2_27 (ly_17 hE) (ly_12 hE) (by decide) (by decide) (by decide) (by decide) (Nat.le_of_ble_eq_true rfl) ?_
  refine r_aload_n dX2_become_15 rfl ?_
  refine r_getR dX2_become_16 fl_X2_15 (ly_2 hE) rfl ?_
  refine r_iconst (v := 0) dX2_become_19 rfl ?_
  refine r_aload_n dX2_become_20 rfl ?_
  refine r_getR dX2_become_21 fl_X2_15 (ly_1 hE) rfl ?_
  refine r_iconst (v := 0) dX2_become_24 rfl ?_
  refine r_iconst (v := 5) dX2_become_25 rfl ?_
  refine r_copyi (sp := 0) (dp := 0) (n := 5) dX2_become_26 lac_X2_27 (ly_18 hE) (ly_13 hE) (by decide) (by decide) (by decide) (by decide) (Nat.le_of_ble_eq_true rfl) ?_
  refine r_aload_n dX2_become_29 rfl ?_
  refine r_getR dX2_become_30 fl_X2_18 (ly_2 hE) rfl ?_
  refine r_iconst (v := 0) dX2_become_33 rfl ?_
  refine r_aload_n dX2_become_34 rfl ?_
  refine r_getR dX2_become_35 fl_X2_18 (ly_1 hE) rfl ?_
  refine r_iconst (v := 0) dX2_become_38 rfl ?_
  refine r_iconst (v := 5) dX2_become_39 rfl ?_
  refine r_copyi (sp := 0) (dp := 0) (n := 5) dX2_become_40 lac_X2_27 (ly_19 hE) (ly_14 hE) (by decide) (by decide) (by decide) (by decide) (Nat.le_of_ble_eq_true rfl) ?_
  refine r_aload_n dX2_become_43 rfl ?_
  refine r_getR dX2_become_44 fl_X2_21 (ly_2 hE) rfl ?_
  refine r_iconst (v := 0) dX2_become_47 rfl ?_
  refine r_aload_n dX2_become_48 rfl ?_
  refine r_getR dX2_become_49 fl_X2_21 (ly_1 hE) rfl ?_
  refine r_iconst (v := 0) dX2_become_52 rfl ?_
  refine r_iconst (v := 5) dX2_become_53 rfl ?_
  refine r_copyi (sp := 0) (dp := 0) (n := 5) dX2_become_54 lac_X2_27 (ly_20 hE) (ly_15 hE) (by decide) (by decide) (by decide) (by decide) (Nat.le_of_ble_eq_true rfl) ?_
  refine r_aload_n dX2_become_57 rfl ?_
  refine r_getR dX2_become_58 fl_X2_24 (ly_2 hE) rfl ?_
  refine r_iconst (v := 0) dX2_become_61 rfl ?_
  refine r_aload_n dX2_become_62 rfl ?_
  refine r_getR dX2_become_63 fl_X2_24 (ly_1 hE) rfl ?_
  refine r_iconst (v := 0) dX2_become_66 rfl ?_
  refine r_iconst (v := 5) dX2_become_67 rfl ?_
  refine r_copyi (sp := 0) (dp := 0) (n := 5) dX2_become_68 lac_X2_27 (ly_21 hE) (ly_16 hE) (by decide) (by decide) (by decide) (by decide) (Nat.le_of_ble_eq_true rfl) ?_
  refine r_aload_n dX2_become_71 rfl ?_
  refine r_aload_n dX2_become_72 rfl ?_
  refine r_getI dX2_become_73 fl_X2_33 (ly_2 hE) rfl ?_
  refine r_putI dX2_become_76 fl_X2_33 fp_2_5 (ly_1 hE) rfl rfl rfl ?_
  refine r_aload_n dX2_become_79 rfl ?_
  refine r_aload_n dX2_become_80 rfl ?_
  refine r_getI dX2_become_81 fl_X2_37 (ly_2 hE) rfl ?_
  refine r_putI dX2_become_84 fl_X2_37 fp_2_6 (ly_1 hE) rfl rfl rfl ?_
  refine r_aload_n dX2_become_87 rfl ?_
  refine r_aload_n dX2_become_88 rfl ?_
  refine r_getI dX2_become_89 fl_X2_40 (ly_2 hE) rfl ?_
  refine r_putI dX2_become_92 fl_X2_40 fp_2_7 (ly_1 hE) rfl rfl rfl ?_
  refine r_return dX2_become_95 rfl ?_
  refine h _ ((Fr.up (by decide)).tr ((Fr.up (by decide)).tr ((Fr.up (by decide)).tr ((Fr.up (by decide)).tr ((Fr.up (by decide)).tr ((Fr.s2 (by decide)).tr ((Fr.s2 (by decide)).tr (Fr.s2 (by decide))))))))) (fun i hi => ?_) (fun i hi => ⟨?_, ?_, ?_, ?_⟩) ?_ ?_ ?_
  · exact cp_at hi
  · exact cp_at hi
  · exact cp_at hi
  · exact cp_at hi
  · exact cp_at hi
  · rfl
  · rfl
  · rfl
set_option maxRecDepth 100000 in
set_option maxHeartbeats 4000000 in
theorem image_loop (hE : hM E) (h : qG E mm_X7_image d 26 [(1, .int (nI 63)), (0, .ref 38)] [] (va_up A 40 (fa_fill (A 39) (A 40) 63)) L Ph) : ∀ (k i : Nat), i + k = 63 → qG E mm_X7_image d 2 [(1, .int (nI i)), (0, .ref 38)] [] (va_up A 40 (fa_fill (A 39) (A 40) i)) L Ph := by
  intro k
  induction k with
  | zero =>
    intro i hi
    have hi : i = 63 := by omega
    subst hi
    refine r_iload_n dX7_image_2 rfl ?_
    refine r_bipush (v := 63) dX7_image_3 rfl ?_
    refine r_icmp_ge (tgt := 26) dX7_image_5 (by decide) (fun _ => ?_) (fun hqz => absurd (nI_le (Nat.le_refl 63) (by decide)) hqz)
    exact h
  | succ k ih =>
    intro i hi
    refine r_iload_n dX7_image_2 rfl ?_
    refine r_bipush (v := 63) dX7_image_3 rfl ?_
    refine r_icmp_ge (tgt := 26) dX7_image_5 (by decide) (fun hqz => absurd hqz (nI_ge (show i < 63 by omega) (by decide))) (fun _ => ?_)
    refine r_aload_n dX7_image_8 rfl ?_
    refine r_getR dX7_image_9 fl_X7_13 (ly_38 hE) rfl ?_
    refine r_iload_n dX7_image_12 rfl ?_
    refine r_aload_n dX7_image_13 rfl ?_
    refine r_getR dX7_image_14 fl_X7_7 (ly_38 hE) rfl ?_
    refine r_iload_n dX7_image_17 rfl ?_
    refine r_ialdN dX7_image_18 (ly_39 hE) (by omega) (by decide) ?_
    refine r_iastN dX7_image_19 (ly_40 hE) (by omega) (by decide) ?_
    refine r_iinc (v := (nI (i + 1))) (loc' := [(1, .int (nI (i + 1))), (0, .ref 38)]) dX7_image_20 rfl ((nI_succ _).symm) (by decide) rfl ?_
    refine r_goto (tgt := 2) dX7_image_23 (by decide) ?_
    refine qG.pick [0, 1] rfl ?_
    rw [s2_up]
    rw [show va_up A 40 (fa_fill (A 39) (A 40) i) 39 = A 39 from rfl, fa_fill_succ]
    exact ih (i + 1) (by omega)
set_option maxRecDepth 100000 in
set_option maxHeartbeats 4000000 in
theorem back_loop (hE : hM E) (h : qG E mm_X7_back d 36 [(1, .int (nI 63)), (0, .ref 38)] [] (va_up A 39 (fa_fill (A 40) (A 39) 63)) L Ph) : ∀ (k i : Nat), i + k = 63 → qG E mm_X7_back d 12 [(1, .int (nI i)), (0, .ref 38)] [] (va_up A 39 (fa_fill (A 40) (A 39) i)) L Ph := by
  intro k
  induction k with
  | zero =>
    intro i hi
    have hi : i = 63 := by omega
    subst hi
    refine r_iload_n dX7_back_12 rfl ?_
    refine r_bipush (v := 63) dX7_back_13 rfl ?_
    refine r_icmp_ge (tgt := 36) dX7_back_15 (by decide) (fun _ => ?_) (fun hqz => absurd (nI_le (Nat.le_refl 63) (by decide)) hqz)
    exact h
  | succ k ih =>
    intro i hi
    refine r_iload_n dX7_back_12 rfl ?_
    refine r_bipush (v := 63) dX7_back_13 rfl ?_
    refine r_icmp_ge (tgt := 36) dX7_back_15 (by decide) (fun hqz => absurd hqz (nI_ge (show i < 63 by omega) (by decide))) (fun _ => ?_)
    refine r_aload_n dX7_back_18 rfl ?_
    refine r_getR dX7_back_19 fl_X7_7 (ly_38 hE) rfl ?_
    refine r_iload_n dX7_back_22 rfl ?_
    refine r_aload_n dX7_back_23 rfl ?_
    refine r_getR dX7_back_24 fl_X7_13 (ly_38 hE) rfl ?_
    refine r_iload_n dX7_back_27 rfl ?_
    refine r_ialdN dX7_back_28 (ly_40 hE) (by omega) (by decide) ?_
    refine r_iastN dX7_back_29 (ly_39 hE) (by omega) (by decide) ?_
    refine r_iinc (v := (nI (i + 1))) (loc' := [(1, .int (nI (i + 1))), (0, .ref 38)]) dX7_back_30 rfl ((nI_succ _).symm) (by decide) rfl ?_
    refine r_goto (tgt := 12) dX7_back_33 (by decide) ?_
    refine qG.pick [0, 1] rfl ?_
    rw [s2_up]
    rw [show va_up A 39 (fa_fill (A 40) (A 39) i) 40 = A 40 from rfl, fa_fill_succ]
    exact ih (i + 1) (by omega)
def imgS (S : mA) : mA := va_up (s2 S 38 2 1) 40 (fa_fill (S 39) (S 40) 63)
theorem imgS_no {k : Nat} (h1 : k ≠ 38) (h2 : k ≠ 40) : imgS S k = S k := by unfold imgS; rw [va_up_no h2, s2_ne h1]
theorem imgS_38 {j : Nat} (h : j ≠ 2) : imgS S 38 j = S 38 j := by unfold imgS; rw [va_up_no (by decide), s2_nj (fun _ => h)]
theorem imgS_40 : imgS S 40 = fa_fill (S 39) (S 40) 63 := va_up_eq
theorem imgS_f : imgS S 38 2 = 1 := by unfold imgS; rw [va_up_no (by decide), s2_same]
theorem WfN.fill {f g : Nat → Int32} {T n : Nat} (h : WfN f T n) : WfN (fa_fill f g 63) T n := by
  obtain ⟨h1, h2, h3, h4, h5, h6⟩ := h
  refine ⟨h1, by rw [fa_fill_in (by decide)]; exact h2, by rw [fa_fill_in (by decide)]; exact h3, by rw [fa_fill_in (by decide)]; exact h4, fun p hp => ?_, fun i hi => by rw [fa_fill_in (by omega)]; exact h6 i hi⟩
  rw [fa_fill_in (by omega), fa_fill_in (by omega), fa_fill_in (by omega), fa_fill_in (by omega)]
  exact h5 p hp
theorem imgS_wf (hW : WfS S T n z) : WfS (imgS S) T n z := by
  obtain ⟨h1, h2, h3, h4, h5, h6, h7, h8⟩ := hW
  refine ⟨h1, h2, by rw [imgS_38 (by decide)]; exact h3, fun r hr => ?_, by rw [imgS_no (by decide) (by decide)]; exact h5, Or.inr ⟨imgS_f, n, by rw [imgS_40]; exact h5.fill⟩, by rw [imgS_38 (by decide), imgS_no (by decide) (by decide)]; exact h7, by rw [imgS_no (by decide) (by decide), imgS_no (by decide) (by decide)]; exact h8⟩
  obtain ⟨e, he⟩ := h4 r hr
  exact ⟨e, he.now (imgS_no (by decide) (by decide)) (imgS_no (by decide) (by decide))⟩
set_option maxRecDepth 100000 in
set_option maxHeartbeats 4000000 in
theorem op_image (hE : hM E) (hW : WfS S T n z) : OpOK E (d + 2) mm_X6_image mm_X7_image [] S T n z := by
  have hEc := hE.c
  have hN := hW.2.2.2.2.1
  have hn := hN.1
  have h60 := hN.2.1
  refine ⟨.int (nI n), imgS S, T, n, z, ⟨_, rfl⟩, imgS_wf hW, fun A L Ph hR hk => ?_, fun A L Ph hR hk => ?_⟩
  · obtain ⟨⟨g1, g2, g3, g4, g5⟩, r2, r3, r4, r5, r6⟩ := id hR
    refine qC.enter (by decide) (Nat.le_of_ble_eq_true rfl) ?_
    refine r_aload_n dX6_image_0 rfl ?_
    refine r_getR dX6_image_1 fl_X6_16 (ly_0 hEc) rfl ?_
    refine r_aload_n dX6_image_4 rfl ?_
    refine r_getR dX6_image_5 fl_X6_10 (ly_0 hEc) rfl ?_
    refine r_callV1 dX6_image_8 lk_X6_297 (ly_2 hEc) rfl (Nat.le_of_ble_eq_true rfl) (bec_2 hEc (fun A1 f1 c1 c2 c3 c4 c5 => ?_))
    refine r_aload_n dX6_image_11 rfl ?_
    refine r_iconst (v := 1) dX6_image_12 rfl ?_
    refine r_putI dX6_image_13 fl_X6_300 fp_6_2 (ly_0 hEc) rfl (by decide) (by decide) ?_
    refine r_aload_n dX6_image_16 rfl ?_
    refine r_getR dX6_image_17 fl_X6_16 (ly_0 hEc) rfl ?_
    refine r_getI dX6_image_20 fl_X6_93 (ly_2 hEc) rfl ?_
    refine r_rw (y := nI n) (by rw [s2_ne (by decide), c3]; exact g3.trans h60) ?_
    refine r_ireturn dX6_image_23 rfl rfl ?_
    have fr : Fr [0, 2, 17, 18, 19, 20, 21] A (s2 A1 0 2 1) := (f1.mo (by decide)).tr (Fr.s2 (by decide))
    refine hk _ L ⟨?_, ?_, ?_, ?_, ?_, ?_⟩ (Fr.hi fr (by decide))
    · rw [imgS_no (by decide) (by decide)]; exact hR.1.fr (fr _ (by decide)) (fr _ (by decide)) (fr _ (by decide)) (fr _ (by decide)) (fr _ (by decide)) (fr _ (by decide))
    · rw [s2_same, imgS_f]
    · intro _ m hm hm5
      rw [imgS_40, fa_fill_in (by decide)] at hm
      have em : m = n := (nI_eq (by omega) (by omega)).mp (hm.symm.trans h60)
      subst em
      rw [imgS_40]
      refine RCn.fr (A := A1) ⟨fun i hi => by rw [fa_fill_in (by omega), c1 i hi]; exact g1 i hi, fun p hp => ?_, by rw [fa_fill_in (by decide), c3]; exact g3, by rw [fa_fill_in (by decide), c4]; exact g4, by rw [fa_fill_in (by decide), c5]; exact g5⟩ (s2_ne (by decide)) (s2_ne (by decide)) (s2_ne (by decide)) (s2_ne (by decide)) (s2_ne (by decide)) (s2_ne (by decide))
      rw [fa_fill_in (by omega), fa_fill_in (by omega), fa_fill_in (by omega), fa_fill_in (by omega)]
      obtain ⟨k1, k2, k3, k4⟩ := c2 p (by omega)
      obtain ⟨l1, l2, l3, l4⟩ := g2 p hp
      exact ⟨k1.trans l1, k2.trans l2, k3.trans l3, k4.trans l4⟩
    · unfold RCt pe at *; rw [fr 3 (by decide), fr 22 (by decide), fr 23 (by decide), imgS_38 (by decide), imgS_no (by decide) (by decide), imgS_no (k := 42) (by decide) (by decide)]; exact r4
    · rw [fr 4 (by decide), fr 25 (by decide), imgS_38 (by decide), imgS_no (by decide) (by decide)]; exact r5
    · intro s hs; rw [fr (8 + s) (by simp; omega), fr (34 + s) (by simp; omega), imgS_no (by decide) (by decide), imgS_no (k := 54) (by decide) (by decide), imgS_no (k := 55) (by decide) (by decide)]; exact r6 s hs
  · have r39 := hR.1
    have K := hk (s2 (va_up A 40 (fa_fill (A 39) (A 40) 63)) 38 2 1) L (by
      obtain ⟨h1, h2, h3, h4, h5, h6, h7, h8, h9, h10, h11, h12, h13⟩ := hR
      have e : ∀ k, k ≠ 38 → k ≠ 40 → s2 (va_up A 40 (fa_fill (A 39) (A 40) 63)) 38 2 1 k = A k := fun k a b => by rw [s2_ne a, va_up_no b]
      have e38 : ∀ j, j ≠ 2 → s2 (va_up A 40 (fa_fill (A 39) (A 40) 63)) 38 2 1 38 j = A 38 j := fun j a => by rw [s2_nj (fun _ => a), va_up_no (by decide)]
      refine ⟨by rw [e _ (by decide) (by decide), imgS_no (by decide) (by decide)]; exact h1, by rw [s2_ne (by decide), va_up_eq, imgS_40, h1, h2], by rw [s2_same, imgS_f], by rw [e38 _ (by decide), imgS_38 (by decide)]; exact h4, by rw [e38 _ (by decide), imgS_38 (by decide)]; exact h5, by rw [e _ (by decide) (by decide), imgS_no (by decide) (by decide)]; exact h6, by unfold pe; rw [e _ (by decide) (by decide), imgS_no (by decide) (by decide), imgS_no (by decide) (by decide)]; exact h7, by rw [e _ (by decide) (by decide), imgS_no (by decide) (by decide)]; exact h8, by rw [e _ (by decide) (by decide), imgS_no (by decide) (by decide)]; exact h9, by rw [e _ (by decide) (by decide), imgS_no (by decide) (by decide)]; exact h10, by rw [e _ (by decide) (by decide), imgS_no (by decide) (by decide)]; exact h11, by rw [e _ (by decide) (by decide)]; exact h12, by rw [e _ (by decide) (by decide)]; exact h13⟩) (Fr.lo (X := [38, 40]) ((Fr.up (by decide)).tr (Fr.s2 (by decide))) (by decide))
    refine qC.enter (by decide) (Nat.le_of_ble_eq_true rfl) ?_
    have J := image_loop (d := d + 2) (A := A) (L := L) (Ph := Ph) hE ?_ 63 0 rfl
    · rw [fa_fill_0, up_self] at J
      refine r_iconst (v := 0) dX7_image_0 rfl ?_
      refine r_istore_n (loc' := [(1, .int 0), (0, .ref 38)]) dX7_image_1 (by decide) rfl ?_
      exact J
    · skip
      refine r_aload_n dX7_image_26 rfl ?_
      refine r_iconst (v := 1) dX7_image_27 rfl ?_
      refine r_putI dX7_image_28 fl_X7_278 fp_7_2 (ly_38 hE) rfl (by decide) (by decide) ?_
      refine r_aload_n dX7_image_31 rfl ?_
      refine r_callV0 dX7_image_32 lk_X7_94 (ly_38 hE) rfl (Nat.le_of_ble_eq_true rfl) (sp_X7_many hE ?_)
      refine r_rw (y := nI n) (by rw [s2_ne (by decide), va_up_no (by decide), r39]; exact h60) ?_
      refine r_ireturn dX7_image_35 rfl rfl ?_
      exact K
theorem bk_no {f : Nat → Int32} {k : Nat} (h : k ≠ 39) : va_up S 39 f k = S k := va_up_no h
set_option maxRecDepth 100000 in
set_option maxHeartbeats 4000000 in
theorem op_back (hE : hM E) (hW : WfS S T n z) : OpOK E (d + 2) mm_X6_back mm_X7_back [] S T n z := by
  have hEc := hE.c
  have hN := hW.2.2.2.2.1
  have hn := hN.1
  have h60 := hN.2.1
  rcases hW.2.2.2.2.2.1 with hf | ⟨hf, n', hN'⟩
  · refine ⟨.int (-3), S, T, n, z, ⟨_, rfl⟩, hW, fun A L Ph hR hk => ?_, fun A L Ph hR hk => ?_⟩
    · have K := hk A L hR (fun _ _ => rfl)
      refine qC.enter (by decide) (Nat.le_of_ble_eq_true rfl) ?_
      refine r_aload_n dX6_back_0 rfl ?_
      refine r_getI dX6_back_1 fl_X6_300 (ly_0 hEc) rfl ?_
      refine r_rw (y := 0) (hR.2.1.trans hf) ?_
      refine r_if_ne (tgt := 10) dX6_back_4 (by decide) (fun hqz => absurd (by decide) hqz) (fun _ => ?_)
      refine r_bipush (v := (-3)) dX6_back_7 rfl ?_
      refine r_ireturn dX6_back_9 rfl rfl ?_
      exact K
    · have K := hk A L hR (fun _ _ => rfl)
      refine qC.enter (by decide) (Nat.le_of_ble_eq_true rfl) ?_
      refine r_aload_n dX7_back_0 rfl ?_
      refine r_getI dX7_back_1 fl_X7_278 (ly_38 hE) rfl ?_
      refine r_rw (y := 0) (hR.2.2.1.trans hf) ?_
      refine r_if_ne (tgt := 10) dX7_back_4 (by decide) (fun hqz => absurd (by decide) hqz) (fun _ => ?_)
      refine r_bipush (v := (-3)) dX7_back_7 rfl ?_
      refine r_ireturn dX7_back_9 rfl rfl ?_
      exact K
  · have hn' := hN'.1
    have e60 : S 40 60 = nI n' := hN'.2.1
    refine ⟨.int (nI n'), va_up S 39 (fa_fill (S 40) (S 39) 63), T, n', z, ⟨_, rfl⟩, hW.now (fun k h => va_up_no h) (by rw [va_up_eq]; exact hN'.fill), fun A L Ph hR hk => ?_, fun A L Ph hR hk => ?_⟩
    · obtain ⟨g1, g2, g3, g4, g5⟩ := hR.2.2.1 hf n' e60 hn'
      refine qC.enter (by decide) (Nat.le_of_ble_eq_true rfl) ?_
      refine r_aload_n dX6_back_0 rfl ?_
      refine r_getI dX6_back_1 fl_X6_300 (ly_0 hEc) rfl ?_
      refine r_rw (y := 1) (hR.2.1.trans hf) ?_
      refine r_if_ne (tgt := 10) dX6_back_4 (by decide) (fun _ => ?_) (fun hqz => absurd hqz (by decide))
      refine r_aload_n dX6_back_10 rfl ?_
      refine r_getR dX6_back_11 fl_X6_10 (ly_0 hEc) rfl ?_
      refine r_aload_n dX6_back_14 rfl ?_
      refine r_getR dX6_back_15 fl_X6_16 (ly_0 hEc) rfl ?_
      refine r_callV1 dX6_back_18 lk_X6_297 (ly_1 hEc) rfl (Nat.le_of_ble_eq_true rfl) (bec_1 hEc (fun A1 f1 c1 c2 c3 c4 c5 => ?_))
      refine r_aload_n dX6_back_21 rfl ?_
      refine r_getR dX6_back_22 fl_X6_10 (ly_0 hEc) rfl ?_
      refine r_getI dX6_back_25 fl_X6_93 (ly_1 hEc) rfl ?_
      refine r_rw (y := nI n') (by rw [c3]; exact g3.trans e60) ?_
      refine r_ireturn dX6_back_28 rfl rfl ?_
      refine hk A1 L (hR.now (fun k h => va_up_no h) f1 ?_) (Fr.hi f1 (by decide))
      rw [va_up_eq]
      refine ⟨fun i hi => by rw [fa_fill_in (by omega), c1 i hi]; exact g1 i hi, fun p hp => ?_, by rw [fa_fill_in (by decide), c3]; exact g3, by rw [fa_fill_in (by decide), c4]; exact g4, by rw [fa_fill_in (by decide), c5]; exact g5⟩
      rw [fa_fill_in (by omega), fa_fill_in (by omega), fa_fill_in (by omega), fa_fill_in (by omega)]
      obtain ⟨k1, k2, k3, k4⟩ := c2 p (by omega)
      obtain ⟨l1, l2, l3, l4⟩ := g2 p hp
      exact ⟨k1.trans l1, k2.trans l2, k3.trans l3, k4.trans l4⟩
    · have K := hk (va_up A 39 (fa_fill (A 40) (A 39) 63)) L (hR.now (fun k h => va_up_no h) (Fr.up (by decide)) (by rw [va_up_eq, va_up_eq, hR.1, hR.2.1])) (Fr.lo (X := [39]) (Fr.up (by decide)) (by decide))
      refine qC.enter (by decide) (Nat.le_of_ble_eq_true rfl) ?_
      have J := back_loop (d := d + 2) (A := A) (L := L) (Ph := Ph) hE ?_ 63 0 rfl
      · rw [fa_fill_0, up_self] at J
        refine r_aload_n dX7_back_0 rfl ?_
        refine r_getI dX7_back_1 fl_X7_278 (ly_38 hE) rfl ?_
        refine r_rw (y := 1) (hR.2.2.1.trans hf) ?_
        refine r_if_ne (tgt := 10) dX7_back_4 (by decide) (fun _ => ?_) (fun hqz => absurd hqz (by decide))
        refine r_iconst (v := 0) dX7_back_10 rfl ?_
        refine r_istore_n (loc' := [(1, .int 0), (0, .ref 38)]) dX7_back_11 (by decide) rfl ?_
        exact J
      · skip
        refine r_aload_n dX7_back_36 rfl ?_
        refine r_callV0 dX7_back_37 lk_X7_94 (ly_38 hE) rfl (Nat.le_of_ble_eq_true rfl) (sp_X7_many hE ?_)
        refine r_rw (y := nI n') (by rw [va_up_eq, fa_fill_in (by decide), hR.2.1]; exact e60) ?_
        refine r_ireturn dX7_back_40 rfl rfl ?_
        exact K
end OPS9
