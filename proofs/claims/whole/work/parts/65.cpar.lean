/-! the class's chains, denials, ones are the grammar's -/
theorem nI_glt {op : Nat} (hop : op ≤ 5) (h : ¬ (5 : Int32) ≤ nI op) : op < 5 := by
  rcases Nat.lt_or_ge op 5 with q | q
  · exact q
  · exact absurd (nI_le (a := 5) q (by omega)) h
section CPAR2
variable {E : mE} {A : mA} {L : mJ} {Ph : mP} {f : Nat → Int32} {z T : Nat}
set_option maxRecDepth 100000 in
set_option maxHeartbeats 1000000 in
theorem hl3 {F : Nat} (hE : hC E) (h : HO E f z T F mm_X1_one 5 1 0) : HC E f z T F mm_X1_link 3 (lk 3) 1 1 := by
  intro op i e out hi ho hop hF hd A L Ph hs hk
  obtain ⟨e, rfl⟩ : ∃ e', e = e' + 1 := ⟨e - 1, by omega⟩
  have hI := h op i e out hi ho hop hF (by omega)
  refine qC.enter (by decide) (Nat.le_of_ble_eq_true rfl) ?_
  refine r_iload_n dX1_link_0 rfl ?_
  refine r_iconst (v := 3) dX1_link_1 rfl ?_
  refine r_icmp_ne (tgt := 13) dX1_link_2 (by decide) (fun hqz => absurd (by decide) hqz) (fun _ => ?_)
  refine r_aload_n dX1_link_5 rfl ?_
  refine r_iload_n dX1_link_6 rfl ?_
  refine r_callV1 dX1_link_7 lk_X1_75 (ly_4 hE) rfl (Nat.le_of_ble_eq_true rfl) (hI A L _ hs (fun A1 f1 c1 => ?_))
  refine r_goto (tgt := 34) dX1_link_10 (by decide) ?_
  refine r_return dX1_link_34 rfl ?_
  exact hk A1 f1 c1
set_option maxRecDepth 100000 in
set_option maxHeartbeats 1000000 in
theorem cl_loop3 (hE : hC E) (hz : z ≤ 160) (hf : ∀ j, j < z → ∃ b, b < 256 ∧ f j = nI b) (hT : T < 6) {F0 : Nat} (hL : ∀ F, F < F0 → HC E f z T F mm_X1_link 3 (lk 3) 1 1) : ∀ F, F ≤ F0 → ∀ (op j e q : Nat) (out : List Int32) (A : mA) (L : mJ) (Ph : mP), j ≤ tE f z j → out.length ≤ j → op ≤ 5 → q < j → 16 * (161 - j) + 1 ≤ F → 10 + 12 * (5 - op) + 2 ≤ e → CS A f z T j out → (∀ A', CF T A A' → CQ A' f z T out (pz (tk f z) (am f z) F (3 + 10) op j) → Ph none A' L) → qG E mm_X1_chain (e + 1) 8 [(3, .int (nI q)), (0, .ref 4), (1, .int 3), (2, .int (nI op))] [] A L Ph := by
  intro F
  induction F with
  | zero => intro _ op j e q out A L Ph _ _ _ _ hF; omega
  | succ F ih =>
    intro hF0 op j e q out A L Ph hj ho hop hq hF hd hs hk
    obtain ⟨e, rfl⟩ : ∃ e', e = e' + 10 := ⟨e - 10, by omega⟩
    have h160 := (tE_le (f := f) hz j).1
    by_cases ht : jn 3 (tk f z j) = true
    · have hv := vl_up hz hf hj (dT_ne (jn_dT ht))
      have hI := hL F (by omega) op (j + 1) (e + 9) out hv.1 (by omega) hop (by omega) (by omega)
      rcases rs_cases (pz (tk f z) (am f z) F (lk 3) op (j + 1)) with ⟨j1, e1⟩ | ⟨j1, c1, e1⟩
      · rw [pz_t1 ht e1] at hk
        rw [e1] at hI
        refine r_iload_n dX1_chain_8 rfl ?_
        refine r_sipush (v := 160) dX1_chain_9 rfl ?_
        refine r_icmp_ge (tgt := 57) dX1_chain_12 (by decide) (fun hqz => absurd hqz (nI_ge (show q < 160 by omega) (by decide))) (fun _ => ?_)
        refine r_aload_n dX1_chain_15 rfl ?_
        refine r_iload_n dX1_chain_16 rfl ?_
        refine r_callV1 dX1_chain_17 lk_X1_64 (ly_4 hE) rfl (Nat.le_of_ble_eq_true rfl) (sp_joins3 hE hs.1.2.2.2.2.1 (fun _ => ?_) (fun y => absurd ht y))
        refine r_if_eq (tgt := 57) dX1_chain_20 (by decide) (fun hqz => absurd hqz (by decide)) (fun _ => ?_)
        refine r_aload_n dX1_chain_23 rfl ?_
        refine r_getI dX1_chain_24 fl_X1_52 (ly_4 hE) rfl ?_
        refine r_rw (y := tk f z j) hs.1.2.2.2.2.1 ?_
        refine r_topi (fun v27 e27 => ?_)
        refine r_istore (loc' := [(4, .int v27), (3, .int (nI q)), (0, .ref 4), (1, .int 3), (2, .int (nI op))]) dX1_chain_27 (by decide) rfl ?_
        refine r_aload_n dX1_chain_29 rfl ?_
        refine r_callV0 dX1_chain_30 lk_X1_38 (ly_4 hE) rfl (Nat.le_of_ble_eq_true rfl) (sp_advance hE hz hf hs.1.1 hs.1.2.1 hs.1.2.2.1 (fun A1 f1 t1 => ?_))
        have hs1 := hs.adv f1 t1
        refine r_aload_n dX1_chain_33 rfl ?_
        refine r_iload_n dX1_chain_34 rfl ?_
        refine r_iload_n dX1_chain_35 rfl ?_
        refine r_callV2 dX1_chain_36 lk_X1_61 (ly_4 hE) rfl (Nat.le_of_ble_eq_true rfl) (hI A1 L _ hs1 (fun A2 f2 q2 => ?_))
        have c2 : CX A2 f z T j1 := q2
        refine r_aload_n dX1_chain_39 rfl ?_
        refine r_getR dX1_chain_40 fl_X1_15 (ly_4 hE) rfl ?_
        refine r_iload dX1_chain_43 rfl ?_
        refine r_callS1 dX1_chain_45 lk_X1_68 (Nat.le_of_ble_eq_true rfl) (sp_stepOf (by rw [e27]; exact jn_dT ht) ?_)
        refine r_callV1 dX1_chain_48 lk_X1_72 (ly_3 hE) rfl (Nat.le_of_ble_eq_true rfl) (add_x hE hT c2 (fun A3 f3 c3 => ?_))
        refine r_iinc (v := (nI (q + 1))) (loc' := [(3, .int (nI (q + 1))), (4, .int v27), (0, .ref 4), (1, .int 3), (2, .int (nI op))]) dX1_chain_51 rfl ((nI_succ _).symm) (by decide) rfl ?_
        refine r_goto (tgt := 8) dX1_chain_54 (by decide) ?_
        refine qG.pick [0, 2, 3, 4] rfl ?_
        exact loop3_x hE hz hT c3 (fun A4 f4 c4 => hk A4 ((((f1.cf (by decide)).tr f2).tr f3).tr f4) c4) (by omega)
      · rw [e1] at hI
        have pv := pzv hz hf (by decide) e1 hv.1
        have hlen : (out ++ c1).length ≤ j1 - 1 := by rw [List.length_append]; omega
        have hv1 := (tE_le (f := f) hz j1).1
        have hk' : ∀ A', CF T A A' → CQ A' f z T (out ++ c1 ++ [dO (tk f z j)]) (pz (tk f z) (am f z) F (3 + 10) op j1) → Ph none A' L := by
          intro A' fa ca
          refine hk A' fa ?_
          rcases rs_cases (pz (tk f z) (am f z) F (3 + 10) op j1) with ⟨j2, e2⟩ | ⟨j2, c2, e2⟩
          · rw [pz_t2 ht e1 e2]
            rw [e2] at ca
            exact ca
          · rw [pz_t3 ht e1 e2]
            rw [e2] at ca
            have ca : CS A' f z T j2 ((out ++ c1 ++ [dO (tk f z j)]) ++ c2) := ca
            show CS A' f z T j2 (out ++ (c1 ++ (dO (tk f z j) :: c2)))
            rw [show out ++ (c1 ++ (dO (tk f z j) :: c2)) = (out ++ c1 ++ [dO (tk f z j)]) ++ c2 by simp]
            exact ca
        refine r_iload_n dX1_chain_8 rfl ?_
        refine r_sipush (v := 160) dX1_chain_9 rfl ?_
        refine r_icmp_ge (tgt := 57) dX1_chain_12 (by decide) (fun hqz => absurd hqz (nI_ge (show q < 160 by omega) (by decide))) (fun _ => ?_)
        refine r_aload_n dX1_chain_15 rfl ?_
        refine r_iload_n dX1_chain_16 rfl ?_
        refine r_callV1 dX1_chain_17 lk_X1_64 (ly_4 hE) rfl (Nat.le_of_ble_eq_true rfl) (sp_joins3 hE hs.1.2.2.2.2.1 (fun _ => ?_) (fun y => absurd ht y))
        refine r_if_eq (tgt := 57) dX1_chain_20 (by decide) (fun hqz => absurd hqz (by decide)) (fun _ => ?_)
        refine r_aload_n dX1_chain_23 rfl ?_
        refine r_getI dX1_chain_24 fl_X1_52 (ly_4 hE) rfl ?_
        refine r_rw (y := tk f z j) hs.1.2.2.2.2.1 ?_
        refine r_topi (fun v27 e27 => ?_)
        refine r_istore (loc' := [(4, .int v27), (3, .int (nI q)), (0, .ref 4), (1, .int 3), (2, .int (nI op))]) dX1_chain_27 (by decide) rfl ?_
        refine r_aload_n dX1_chain_29 rfl ?_
        refine r_callV0 dX1_chain_30 lk_X1_38 (ly_4 hE) rfl (Nat.le_of_ble_eq_true rfl) (sp_advance hE hz hf hs.1.1 hs.1.2.1 hs.1.2.2.1 (fun A1 f1 t1 => ?_))
        have hs1 := hs.adv f1 t1
        refine r_aload_n dX1_chain_33 rfl ?_
        refine r_iload_n dX1_chain_34 rfl ?_
        refine r_iload_n dX1_chain_35 rfl ?_
        refine r_callV2 dX1_chain_36 lk_X1_61 (ly_4 hE) rfl (Nat.le_of_ble_eq_true rfl) (hI A1 L _ hs1 (fun A2 f2 q2 => ?_))
        have c2 : CS A2 f z T j1 (out ++ c1) := q2
        refine r_aload_n dX1_chain_39 rfl ?_
        refine r_getR dX1_chain_40 fl_X1_15 (ly_4 hE) rfl ?_
        refine r_iload dX1_chain_43 rfl ?_
        refine r_callS1 dX1_chain_45 lk_X1_68 (Nat.le_of_ble_eq_true rfl) (sp_stepOf (by rw [e27]; exact jn_dT ht) ?_)
        refine r_callV1 dX1_chain_48 lk_X1_72 (ly_3 hE) rfl (Nat.le_of_ble_eq_true rfl) (add_c (y := dO (tk f z j)) hE hT c2 (by omega) (by rw [e27]) (fun A3 f3 c3 => ?_))
        refine r_iinc (v := (nI (q + 1))) (loc' := [(3, .int (nI (q + 1))), (4, .int v27), (0, .ref 4), (1, .int 3), (2, .int (nI op))]) dX1_chain_51 rfl ((nI_succ _).symm) (by decide) rfl ?_
        refine r_goto (tgt := 8) dX1_chain_54 (by decide) ?_
        refine qG.pick [0, 2, 3, 4] rfl ?_
        exact ih (by omega) op j1 (e + 10) (q + 1) (out ++ c1 ++ [dO (tk f z j)]) A3 L Ph pv.1 (by rw [List.length_append, List.length_singleton]; omega) hop (by omega) (by omega) (by omega) c3 (fun A' fa ca => hk' A' ((((f1.cf (by decide)).tr f2).tr f3).tr fa) ca)
    · rw [pz_t0 ht] at hk
      refine r_iload_n dX1_chain_8 rfl ?_
      refine r_sipush (v := 160) dX1_chain_9 rfl ?_
      refine r_icmp_ge (tgt := 57) dX1_chain_12 (by decide) (fun hqz => absurd hqz (nI_ge (show q < 160 by omega) (by decide))) (fun _ => ?_)
      refine r_aload_n dX1_chain_15 rfl ?_
      refine r_iload_n dX1_chain_16 rfl ?_
      refine r_callV1 dX1_chain_17 lk_X1_64 (ly_4 hE) rfl (Nat.le_of_ble_eq_true rfl) (sp_joins3 hE hs.1.2.2.2.2.1 (fun y => absurd y ht) (fun _ => ?_))
      refine r_if_eq (tgt := 57) dX1_chain_20 (by decide) (fun _ => ?_) (fun hqz => absurd (by decide) hqz)
      refine r_return dX1_chain_57 rfl ?_
      refine hk A CF.rf ?_
      show CS A f z T j (out ++ [])
      rw [List.append_nil]
      exact hs
set_option maxRecDepth 100000 in
set_option maxHeartbeats 1000000 in
theorem hc3 (hE : hC E) (hz : z ≤ 160) (hf : ∀ j, j < z → ∃ b, b < 256 ∧ f j = nI b) (hT : T < 6) {F0 : Nat} (hL : ∀ F, F < F0 → HC E f z T F mm_X1_link 3 (lk 3) 1 1) : HC E f z T F0 mm_X1_chain 3 3 2 2 := by
  intro op i e out hi ho hop hF hd A L Ph hs hk
  obtain ⟨F, rfl⟩ : ∃ F, F0 = F + 1 := ⟨F0 - 1, by omega⟩
  obtain ⟨e, rfl⟩ : ∃ e', e = e' + 10 := ⟨e - 10, by omega⟩
  have hI := hL F (by omega) op i (e + 9) out hi ho hop (by omega) (by omega)
  have h160 := (tE_le (f := f) hz i).1
  rcases rs_cases (pz (tk f z) (am f z) F (lk 3) op i) with ⟨j1, e1⟩ | ⟨j1, c1, e1⟩
  · rw [pz_c0 (by decide) e1] at hk
    rw [e1] at hI
    refine qC.enter (by decide) (Nat.le_of_ble_eq_true rfl) ?_
    refine r_aload_n dX1_chain_0 rfl ?_
    refine r_iload_n dX1_chain_1 rfl ?_
    refine r_iload_n dX1_chain_2 rfl ?_
    refine r_callV2 dX1_chain_3 lk_X1_61 (ly_4 hE) rfl (Nat.le_of_ble_eq_true rfl) (hI A L _ hs (fun A1 f1 c1 => ?_))
    refine r_iconst (v := 0) dX1_chain_6 rfl ?_
    refine r_istore_n (loc' := [(3, .int 0), (0, .ref 4), (1, .int 3), (2, .int (nI op))]) dX1_chain_7 (by decide) rfl ?_
    refine qG.pick [0, 1, 2, 3] rfl ?_
    exact loop3_x hE hz hT (show CX A1 f z T j1 from c1) (fun A2 f2 c2 => hk A2 (f1.tr f2) c2) (Nat.zero_le _)
  · rw [e1] at hI
    have pv := pzv hz hf (by decide) e1 hi
    have plt := pv.2.2.1 (by decide)
    have hv1 := (tE_le (f := f) hz j1).1
    have hk' : ∀ A', CF T A A' → CQ A' f z T (out ++ c1) (pz (tk f z) (am f z) F (3 + 10) op j1) → Ph none A' L := by
      intro A' fa ca
      refine hk A' fa ?_
      rcases rs_cases (pz (tk f z) (am f z) F (3 + 10) op j1) with ⟨j2, e2⟩ | ⟨j2, c2, e2⟩
      · rw [pz_c1 (by decide) e1 e2]
        rw [e2] at ca
        exact ca
      · rw [pz_c2 (by decide) e1 e2]
        rw [e2] at ca
        have ca : CS A' f z T j2 ((out ++ c1) ++ c2) := ca
        show CS A' f z T j2 (out ++ (c1 ++ c2))
        rw [← List.append_assoc]
        exact ca
    refine qC.enter (by decide) (Nat.le_of_ble_eq_true rfl) ?_
    refine r_aload_n dX1_chain_0 rfl ?_
    refine r_iload_n dX1_chain_1 rfl ?_
    refine r_iload_n dX1_chain_2 rfl ?_
    refine r_callV2 dX1_chain_3 lk_X1_61 (ly_4 hE) rfl (Nat.le_of_ble_eq_true rfl) (hI A L _ hs (fun A1 f1 q1 => ?_))
    have c2 : CS A1 f z T j1 (out ++ c1) := q1
    refine r_iconst (v := 0) dX1_chain_6 rfl ?_
    refine r_istore_n (loc' := [(3, .int 0), (0, .ref 4), (1, .int 3), (2, .int (nI op))]) dX1_chain_7 (by decide) rfl ?_
    refine qG.pick [0, 1, 2, 3] rfl ?_
    exact cl_loop3 hE hz hf hT (F0 := F) (fun F' h => hL F' (by omega)) F (Nat.le_refl _) op j1 (e + 10) 0 (out ++ c1) A1 L Ph pv.1 (by rw [List.length_append]; omega) hop (by omega) (by omega) (by omega) c2 (fun A' fa ca => hk' A' (f1.tr fa) ca)
set_option maxRecDepth 100000 in
set_option maxHeartbeats 1000000 in
theorem hl2 {F : Nat} (hE : hC E) (h : HC E f z T F mm_X1_chain 3 3 2 2) : HC E f z T F mm_X1_link 2 (lk 2) 2 3 := by
  intro op i e out hi ho hop hF hd A L Ph hs hk
  obtain ⟨e, rfl⟩ : ∃ e', e = e' + 1 := ⟨e - 1, by omega⟩
  have hI := h op i e out hi ho hop hF (by omega)
  refine qC.enter (by decide) (Nat.le_of_ble_eq_true rfl) ?_
  refine r_iload_n dX1_link_0 rfl ?_
  refine r_iconst (v := 3) dX1_link_1 rfl ?_
  refine r_icmp_ne (tgt := 13) dX1_link_2 (by decide) (fun _ => ?_) (fun hqz => absurd hqz (by decide))
  refine r_iload_n dX1_link_13 rfl ?_
  refine r_iconst (v := 1) dX1_link_14 rfl ?_
  refine r_icmp_ne (tgt := 26) dX1_link_15 (by decide) (fun _ => ?_) (fun hqz => absurd hqz (by decide))
  refine r_aload_n dX1_link_26 rfl ?_
  refine r_iload_n dX1_link_27 rfl ?_
  refine r_iconst (v := 1) dX1_link_28 rfl ?_
  refine r_iadd dX1_link_29 ?_
  refine r_rw (y := 3) (by decide) ?_
  refine r_iload_n dX1_link_30 rfl ?_
  refine r_callV2 dX1_link_31 lk_X1_45 (ly_4 hE) rfl (Nat.le_of_ble_eq_true rfl) (hI A L _ hs (fun A1 f1 c1 => ?_))
  refine r_return dX1_link_34 rfl ?_
  exact hk A1 f1 c1
set_option maxRecDepth 100000 in
set_option maxHeartbeats 1000000 in
theorem cl_loop2 (hE : hC E) (hz : z ≤ 160) (hf : ∀ j, j < z → ∃ b, b < 256 ∧ f j = nI b) (hT : T < 6) {F0 : Nat} (hL : ∀ F, F < F0 → HC E f z T F mm_X1_link 2 (lk 2) 2 3) : ∀ F, F ≤ F0 → ∀ (op j e q : Nat) (out : List Int32) (A : mA) (L : mJ) (Ph : mP), j ≤ tE f z j → out.length ≤ j → op ≤ 5 → q < j → 16 * (161 - j) + 1 ≤ F → 10 + 12 * (5 - op) + 4 ≤ e → CS A f z T j out → (∀ A', CF T A A' → CQ A' f z T out (pz (tk f z) (am f z) F (2 + 10) op j) → Ph none A' L) → qG E mm_X1_chain (e + 1) 8 [(3, .int (nI q)), (0, .ref 4), (1, .int 2), (2, .int (nI op))] [] A L Ph := by
  intro F
  induction F with
  | zero => intro _ op j e q out A L Ph _ _ _ _ hF; omega
  | succ F ih =>
    intro hF0 op j e q out A L Ph hj ho hop hq hF hd hs hk
    obtain ⟨e, rfl⟩ : ∃ e', e = e' + 10 := ⟨e - 10, by omega⟩
    have h160 := (tE_le (f := f) hz j).1
    by_cases ht : jn 2 (tk f z j) = true
    · have hv := vl_up hz hf hj (dT_ne (jn_dT ht))
      have hI := hL F (by omega) op (j + 1) (e + 9) out hv.1 (by omega) hop (by omega) (by omega)
      rcases rs_cases (pz (tk f z) (am f z) F (lk 2) op (j + 1)) with ⟨j1, e1⟩ | ⟨j1, c1, e1⟩
      · rw [pz_t1 ht e1] at hk
        rw [e1] at hI
        refine r_iload_n dX1_chain_8 rfl ?_
        refine r_sipush (v := 160) dX1_chain_9 rfl ?_
        refine r_icmp_ge (tgt := 57) dX1_chain_12 (by decide) (fun hqz => absurd hqz (nI_ge (show q < 160 by omega) (by decide))) (fun _ => ?_)
        refine r_aload_n dX1_chain_15 rfl ?_
        refine r_iload_n dX1_chain_16 rfl ?_
        refine r_callV1 dX1_chain_17 lk_X1_64 (ly_4 hE) rfl (Nat.le_of_ble_eq_true rfl) (sp_joins2 hE hs.1.2.2.2.2.1 (fun _ => ?_) (fun y => absurd ht y))
        refine r_if_eq (tgt := 57) dX1_chain_20 (by decide) (fun hqz => absurd hqz (by decide)) (fun _ => ?_)
        refine r_aload_n dX1_chain_23 rfl ?_
        refine r_getI dX1_chain_24 fl_X1_52 (ly_4 hE) rfl ?_
        refine r_rw (y := tk f z j) hs.1.2.2.2.2.1 ?_
        refine r_topi (fun v27 e27 => ?_)
        refine r_istore (loc' := [(4, .int v27), (3, .int (nI q)), (0, .ref 4), (1, .int 2), (2, .int (nI op))]) dX1_chain_27 (by decide) rfl ?_
        refine r_aload_n dX1_chain_29 rfl ?_
        refine r_callV0 dX1_chain_30 lk_X1_38 (ly_4 hE) rfl (Nat.le_of_ble_eq_true rfl) (sp_advance hE hz hf hs.1.1 hs.1.2.1 hs.1.2.2.1 (fun A1 f1 t1 => ?_))
        have hs1 := hs.adv f1 t1
        refine r_aload_n dX1_chain_33 rfl ?_
        refine r_iload_n dX1_chain_34 rfl ?_
        refine r_iload_n dX1_chain_35 rfl ?_
        refine r_callV2 dX1_chain_36 lk_X1_61 (ly_4 hE) rfl (Nat.le_of_ble_eq_true rfl) (hI A1 L _ hs1 (fun A2 f2 q2 => ?_))
        have c2 : CX A2 f z T j1 := q2
        refine r_aload_n dX1_chain_39 rfl ?_
        refine r_getR dX1_chain_40 fl_X1_15 (ly_4 hE) rfl ?_
        refine r_iload dX1_chain_43 rfl ?_
        refine r_callS1 dX1_chain_45 lk_X1_68 (Nat.le_of_ble_eq_true rfl) (sp_stepOf (by rw [e27]; exact jn_dT ht) ?_)
        refine r_callV1 dX1_chain_48 lk_X1_72 (ly_3 hE) rfl (Nat.le_of_ble_eq_true rfl) (add_x hE hT c2 (fun A3 f3 c3 => ?_))
        refine r_iinc (v := (nI (q + 1))) (loc' := [(3, .int (nI (q + 1))), (4, .int v27), (0, .ref 4), (1, .int 2), (2, .int (nI op))]) dX1_chain_51 rfl ((nI_succ _).symm) (by decide) rfl ?_
        refine r_goto (tgt := 8) dX1_chain_54 (by decide) ?_
        refine qG.pick [0, 2, 3, 4] rfl ?_
        exact loop2_x hE hz hT c3 (fun A4 f4 c4 => hk A4 ((((f1.cf (by decide)).tr f2).tr f3).tr f4) c4) (by omega)
      · rw [e1] at hI
        have pv := pzv hz hf (by decide) e1 hv.1
        have hlen : (out ++ c1).length ≤ j1 - 1 := by rw [List.length_append]; omega
        have hv1 := (tE_le (f := f) hz j1).1
        have hk' : ∀ A', CF T A A' → CQ A' f z T (out ++ c1 ++ [dO (tk f z j)]) (pz (tk f z) (am f z) F (2 + 10) op j1) → Ph none A' L := by
          intro A' fa ca
          refine hk A' fa ?_
          rcases rs_cases (pz (tk f z) (am f z) F (2 + 10) op j1) with ⟨j2, e2⟩ | ⟨j2, c2, e2⟩
          · rw [pz_t2 ht e1 e2]
            rw [e2] at ca
            exact ca
          · rw [pz_t3 ht e1 e2]
            rw [e2] at ca
            have ca : CS A' f z T j2 ((out ++ c1 ++ [dO (tk f z j)]) ++ c2) := ca
            show CS A' f z T j2 (out ++ (c1 ++ (dO (tk f z j) :: c2)))
            rw [show out ++ (c1 ++ (dO (tk f z j) :: c2)) = (out ++ c1 ++ [dO (tk f z j)]) ++ c2 by simp]
            exact ca
        refine r_iload_n dX1_chain_8 rfl ?_
        refine r_sipush (v := 160) dX1_chain_9 rfl ?_
        refine r_icmp_ge (tgt := 57) dX1_chain_12 (by decide) (fun hqz => absurd hqz (nI_ge (show q < 160 by omega) (by decide))) (fun _ => ?_)
        refine r_aload_n dX1_chain_15 rfl ?_
        refine r_iload_n dX1_chain_16 rfl ?_
        refine r_callV1 dX1_chain_17 lk_X1_64 (ly_4 hE) rfl (Nat.le_of_ble_eq_true rfl) (sp_joins2 hE hs.1.2.2.2.2.1 (fun _ => ?_) (fun y => absurd ht y))
        refine r_if_eq (tgt := 57) dX1_chain_20 (by decide) (fun hqz => absurd hqz (by decide)) (fun _ => ?_)
        refine r_aload_n dX1_chain_23 rfl ?_
        refine r_getI dX1_chain_24 fl_X1_52 (ly_4 hE) rfl ?_
        refine r_rw (y := tk f z j) hs.1.2.2.2.2.1 ?_
        refine r_topi (fun v27 e27 => ?_)
        refine r_istore (loc' := [(4, .int v27), (3, .int (nI q)), (0, .ref 4), (1, .int 2), (2, .int (nI op))]) dX1_chain_27 (by decide) rfl ?_
        refine r_aload_n dX1_chain_29 rfl ?_
        refine r_callV0 dX1_chain_30 lk_X1_38 (ly_4 hE) rfl (Nat.le_of_ble_eq_true rfl) (sp_advance hE hz hf hs.1.1 hs.1.2.1 hs.1.2.2.1 (fun A1 f1 t1 => ?_))
        have hs1 := hs.adv f1 t1
        refine r_aload_n dX1_chain_33 rfl ?_
        refine r_iload_n dX1_chain_34 rfl ?_
        refine r_iload_n dX1_chain_35 rfl ?_
        refine r_callV2 dX1_chain_36 lk_X1_61 (ly_4 hE) rfl (Nat.le_of_ble_eq_true rfl) (hI A1 L _ hs1 (fun A2 f2 q2 => ?_))
        have c2 : CS A2 f z T j1 (out ++ c1) := q2
        refine r_aload_n dX1_chain_39 rfl ?_
        refine r_getR dX1_chain_40 fl_X1_15 (ly_4 hE) rfl ?_
        refine r_iload dX1_chain_43 rfl ?_
        refine r_callS1 dX1_chain_45 lk_X1_68 (Nat.le_of_ble_eq_true rfl) (sp_stepOf (by rw [e27]; exact jn_dT ht) ?_)
        refine r_callV1 dX1_chain_48 lk_X1_72 (ly_3 hE) rfl (Nat.le_of_ble_eq_true rfl) (add_c (y := dO (tk f z j)) hE hT c2 (by omega) (by rw [e27]) (fun A3 f3 c3 => ?_))
        refine r_iinc (v := (nI (q + 1))) (loc' := [(3, .int (nI (q + 1))), (4, .int v27), (0, .ref 4), (1, .int 2), (2, .int (nI op))]) dX1_chain_51 rfl ((nI_succ _).symm) (by decide) rfl ?_
        refine r_goto (tgt := 8) dX1_chain_54 (by decide) ?_
        refine qG.pick [0, 2, 3, 4] rfl ?_
        exact ih (by omega) op j1 (e + 10) (q + 1) (out ++ c1 ++ [dO (tk f z j)]) A3 L Ph pv.1 (by rw [List.length_append, List.length_singleton]; omega) hop (by omega) (by omega) (by omega) c3 (fun A' fa ca => hk' A' ((((f1.cf (by decide)).tr f2).tr f3).tr fa) ca)
    · rw [pz_t0 ht] at hk
      refine r_iload_n dX1_chain_8 rfl ?_
      refine r_sipush (v := 160) dX1_chain_9 rfl ?_
      refine r_icmp_ge (tgt := 57) dX1_chain_12 (by decide) (fun hqz => absurd hqz (nI_ge (show q < 160 by omega) (by decide))) (fun _ => ?_)
      refine r_aload_n dX1_chain_15 rfl ?_
      refine r_iload_n dX1_chain_16 rfl ?_
      refine r_callV1 dX1_chain_17 lk_X1_64 (ly_4 hE) rfl (Nat.le_of_ble_eq_true rfl) (sp_joins2 hE hs.1.2.2.2.2.1 (fun y => absurd y ht) (fun _ => ?_))
      refine r_if_eq (tgt := 57) dX1_chain_20 (by decide) (fun _ => ?_) (fun hqz => absurd (by decide) hqz)
      refine r_return dX1_chain_57 rfl ?_
      refine hk A CF.rf ?_
      show CS A f z T j (out ++ [])
      rw [List.append_nil]
      exact hs
set_option maxRecDepth 100000 in
set_option maxHeartbeats 1000000 in
theorem hc2 (hE : hC E) (hz : z ≤ 160) (hf : ∀ j, j < z → ∃ b, b < 256 ∧ f j = nI b) (hT : T < 6) {F0 : Nat} (hL : ∀ F, F < F0 → HC E f z T F mm_X1_link 2 (lk 2) 2 3) : HC E f z T F0 mm_X1_chain 2 2 3 4 := by
  intro op i e out hi ho hop hF hd A L Ph hs hk
  obtain ⟨F, rfl⟩ : ∃ F, F0 = F + 1 := ⟨F0 - 1, by omega⟩
  obtain ⟨e, rfl⟩ : ∃ e', e = e' + 10 := ⟨e - 10, by omega⟩
  have hI := hL F (by omega) op i (e + 9) out hi ho hop (by omega) (by omega)
  have h160 := (tE_le (f := f) hz i).1
  rcases rs_cases (pz (tk f z) (am f z) F (lk 2) op i) with ⟨j1, e1⟩ | ⟨j1, c1, e1⟩
  · rw [pz_c0 (by decide) e1] at hk
    rw [e1] at hI
    refine qC.enter (by decide) (Nat.le_of_ble_eq_true rfl) ?_
    refine r_aload_n dX1_chain_0 rfl ?_
    refine r_iload_n dX1_chain_1 rfl ?_
    refine r_iload_n dX1_chain_2 rfl ?_
    refine r_callV2 dX1_chain_3 lk_X1_61 (ly_4 hE) rfl (Nat.le_of_ble_eq_true rfl) (hI A L _ hs (fun A1 f1 c1 => ?_))
    refine r_iconst (v := 0) dX1_chain_6 rfl ?_
    refine r_istore_n (loc' := [(3, .int 0), (0, .ref 4), (1, .int 2), (2, .int (nI op))]) dX1_chain_7 (by decide) rfl ?_
    refine qG.pick [0, 1, 2, 3] rfl ?_
    exact loop2_x hE hz hT (show CX A1 f z T j1 from c1) (fun A2 f2 c2 => hk A2 (f1.tr f2) c2) (Nat.zero_le _)
  · rw [e1] at hI
    have pv := pzv hz hf (by decide) e1 hi
    have plt := pv.2.2.1 (by decide)
    have hv1 := (tE_le (f := f) hz j1).1
    have hk' : ∀ A', CF T A A' → CQ A' f z T (out ++ c1) (pz (tk f z) (am f z) F (2 + 10) op j1) → Ph none A' L := by
      intro A' fa ca
      refine hk A' fa ?_
      rcases rs_cases (pz (tk f z) (am f z) F (2 + 10) op j1) with ⟨j2, e2⟩ | ⟨j2, c2, e2⟩
      · rw [pz_c1 (by decide) e1 e2]
        rw [e2] at ca
        exact ca
      · rw [pz_c2 (by decide) e1 e2]
        rw [e2] at ca
        have ca : CS A' f z T j2 ((out ++ c1) ++ c2) := ca
        show CS A' f z T j2 (out ++ (c1 ++ c2))
        rw [← List.append_assoc]
        exact ca
    refine qC.enter (by decide) (Nat.le_of_ble_eq_true rfl) ?_
    refine r_aload_n dX1_chain_0 rfl ?_
    refine r_iload_n dX1_chain_1 rfl ?_
    refine r_iload_n dX1_chain_2 rfl ?_
    refine r_callV2 dX1_chain_3 lk_X1_61 (ly_4 hE) rfl (Nat.le_of_ble_eq_true rfl) (hI A L _ hs (fun A1 f1 q1 => ?_))
    have c2 : CS A1 f z T j1 (out ++ c1) := q1
    refine r_iconst (v := 0) dX1_chain_6 rfl ?_
    refine r_istore_n (loc' := [(3, .int 0), (0, .ref 4), (1, .int 2), (2, .int (nI op))]) dX1_chain_7 (by decide) rfl ?_
    refine qG.pick [0, 1, 2, 3] rfl ?_
    exact cl_loop2 hE hz hf hT (F0 := F) (fun F' h => hL F' (by omega)) F (Nat.le_refl _) op j1 (e + 10) 0 (out ++ c1) A1 L Ph pv.1 (by rw [List.length_append]; omega) hop (by omega) (by omega) (by omega) c2 (fun A' fa ca => hk' A' (f1.tr fa) ca)
set_option maxRecDepth 100000 in
set_option maxHeartbeats 1000000 in
theorem hl1 {F : Nat} (hE : hC E) (h : HO E f z T F mm_X1_denial 4 4 5) : HC E f z T F mm_X1_link 1 (lk 1) 4 6 := by
  intro op i e out hi ho hop hF hd A L Ph hs hk
  obtain ⟨e, rfl⟩ : ∃ e', e = e' + 1 := ⟨e - 1, by omega⟩
  have hI := h op i e out hi ho hop hF (by omega)
  refine qC.enter (by decide) (Nat.le_of_ble_eq_true rfl) ?_
  refine r_iload_n dX1_link_0 rfl ?_
  refine r_iconst (v := 3) dX1_link_1 rfl ?_
  refine r_icmp_ne (tgt := 13) dX1_link_2 (by decide) (fun _ => ?_) (fun hqz => absurd hqz (by decide))
  refine r_iload_n dX1_link_13 rfl ?_
  refine r_iconst (v := 1) dX1_link_14 rfl ?_
  refine r_icmp_ne (tgt := 26) dX1_link_15 (by decide) (fun hqz => absurd (by decide) hqz) (fun _ => ?_)
  refine r_aload_n dX1_link_18 rfl ?_
  refine r_iload_n dX1_link_19 rfl ?_
  refine r_callV1 dX1_link_20 lk_X1_78 (ly_4 hE) rfl (Nat.le_of_ble_eq_true rfl) (hI A L _ hs (fun A1 f1 c1 => ?_))
  refine r_goto (tgt := 34) dX1_link_23 (by decide) ?_
  refine r_return dX1_link_34 rfl ?_
  exact hk A1 f1 c1
set_option maxRecDepth 100000 in
set_option maxHeartbeats 1000000 in
theorem cl_loop1 (hE : hC E) (hz : z ≤ 160) (hf : ∀ j, j < z → ∃ b, b < 256 ∧ f j = nI b) (hT : T < 6) {F0 : Nat} (hL : ∀ F, F < F0 → HC E f z T F mm_X1_link 1 (lk 1) 4 6) : ∀ F, F ≤ F0 → ∀ (op j e q : Nat) (out : List Int32) (A : mA) (L : mJ) (Ph : mP), j ≤ tE f z j → out.length ≤ j → op ≤ 5 → q < j → 16 * (161 - j) + 1 ≤ F → 10 + 12 * (5 - op) + 7 ≤ e → CS A f z T j out → (∀ A', CF T A A' → CQ A' f z T out (pz (tk f z) (am f z) F (1 + 10) op j) → Ph none A' L) → qG E mm_X1_chain (e + 1) 8 [(3, .int (nI q)), (0, .ref 4), (1, .int 1), (2, .int (nI op))] [] A L Ph := by
  intro F
  induction F with
  | zero => intro _ op j e q out A L Ph _ _ _ _ hF; omega
  | succ F ih =>
    intro hF0 op j e q out A L Ph hj ho hop hq hF hd hs hk
    obtain ⟨e, rfl⟩ : ∃ e', e = e' + 10 := ⟨e - 10, by omega⟩
    have h160 := (tE_le (f := f) hz j).1
    by_cases ht : jn 1 (tk f z j) = true
    · have hv := vl_up hz hf hj (dT_ne (jn_dT ht))
      have hI := hL F (by omega) op (j + 1) (e + 9) out hv.1 (by omega) hop (by omega) (by omega)
      rcases rs_cases (pz (tk f z) (am f z) F (lk 1) op (j + 1)) with ⟨j1, e1⟩ | ⟨j1, c1, e1⟩
      · rw [pz_t1 ht e1] at hk
        rw [e1] at hI
        refine r_iload_n dX1_chain_8 rfl ?_
        refine r_sipush (v := 160) dX1_chain_9 rfl ?_
        refine r_icmp_ge (tgt := 57) dX1_chain_12 (by decide) (fun hqz => absurd hqz (nI_ge (show q < 160 by omega) (by decide))) (fun _ => ?_)
        refine r_aload_n dX1_chain_15 rfl ?_
        refine r_iload_n dX1_chain_16 rfl ?_
        refine r_callV1 dX1_chain_17 lk_X1_64 (ly_4 hE) rfl (Nat.le_of_ble_eq_true rfl) (sp_joins1 hE hs.1.2.2.2.2.1 (fun _ => ?_) (fun y => absurd ht y))
        refine r_if_eq (tgt := 57) dX1_chain_20 (by decide) (fun hqz => absurd hqz (by decide)) (fun _ => ?_)
        refine r_aload_n dX1_chain_23 rfl ?_
        refine r_getI dX1_chain_24 fl_X1_52 (ly_4 hE) rfl ?_
        refine r_rw (y := tk f z j) hs.1.2.2.2.2.1 ?_
        refine r_topi (fun v27 e27 => ?_)
        refine r_istore (loc' := [(4, .int v27), (3, .int (nI q)), (0, .ref 4), (1, .int 1), (2, .int (nI op))]) dX1_chain_27 (by decide) rfl ?_
        refine r_aload_n dX1_chain_29 rfl ?_
        refine r_callV0 dX1_chain_30 lk_X1_38 (ly_4 hE) rfl (Nat.le_of_ble_eq_true rfl) (sp_advance hE hz hf hs.1.1 hs.1.2.1 hs.1.2.2.1 (fun A1 f1 t1 => ?_))
        have hs1 := hs.adv f1 t1
        refine r_aload_n dX1_chain_33 rfl ?_
        refine r_iload_n dX1_chain_34 rfl ?_
        refine r_iload_n dX1_chain_35 rfl ?_
        refine r_callV2 dX1_chain_36 lk_X1_61 (ly_4 hE) rfl (Nat.le_of_ble_eq_true rfl) (hI A1 L _ hs1 (fun A2 f2 q2 => ?_))
        have c2 : CX A2 f z T j1 := q2
        refine r_aload_n dX1_chain_39 rfl ?_
        refine r_getR dX1_chain_40 fl_X1_15 (ly_4 hE) rfl ?_
        refine r_iload dX1_chain_43 rfl ?_
        refine r_callS1 dX1_chain_45 lk_X1_68 (Nat.le_of_ble_eq_true rfl) (sp_stepOf (by rw [e27]; exact jn_dT ht) ?_)
        refine r_callV1 dX1_chain_48 lk_X1_72 (ly_3 hE) rfl (Nat.le_of_ble_eq_true rfl) (add_x hE hT c2 (fun A3 f3 c3 => ?_))
        refine r_iinc (v := (nI (q + 1))) (loc' := [(3, .int (nI (q + 1))), (4, .int v27), (0, .ref 4), (1, .int 1), (2, .int (nI op))]) dX1_chain_51 rfl ((nI_succ _).symm) (by decide) rfl ?_
        refine r_goto (tgt := 8) dX1_chain_54 (by decide) ?_
        refine qG.pick [0, 2, 3, 4] rfl ?_
        exact loop1_x hE hz hT c3 (fun A4 f4 c4 => hk A4 ((((f1.cf (by decide)).tr f2).tr f3).tr f4) c4) (by omega)
      · rw [e1] at hI
        have pv := pzv hz hf (by decide) e1 hv.1
        have hlen : (out ++ c1).length ≤ j1 - 1 := by rw [List.length_append]; omega
        have hv1 := (tE_le (f := f) hz j1).1
        have hk' : ∀ A', CF T A A' → CQ A' f z T (out ++ c1 ++ [dO (tk f z j)]) (pz (tk f z) (am f z) F (1 + 10) op j1) → Ph none A' L := by
          intro A' fa ca
          refine hk A' fa ?_
          rcases rs_cases (pz (tk f z) (am f z) F (1 + 10) op j1) with ⟨j2, e2⟩ | ⟨j2, c2, e2⟩
          · rw [pz_t2 ht e1 e2]
            rw [e2] at ca
            exact ca
          · rw [pz_t3 ht e1 e2]
            rw [e2] at ca
            have ca : CS A' f z T j2 ((out ++ c1 ++ [dO (tk f z j)]) ++ c2) := ca
            show CS A' f z T j2 (out ++ (c1 ++ (dO (tk f z j) :: c2)))
            rw [show out ++ (c1 ++ (dO (tk f z j) :: c2)) = (out ++ c1 ++ [dO (tk f z j)]) ++ c2 by simp]
            exact ca
        refine r_iload_n dX1_chain_8 rfl ?_
        refine r_sipush (v := 160) dX1_chain_9 rfl ?_
        refine r_icmp_ge (tgt := 57) dX1_chain_12 (by decide) (fun hqz => absurd hqz (nI_ge (show q < 160 by omega) (by decide))) (fun _ => ?_)
        refine r_aload_n dX1_chain_15 rfl ?_
        refine r_iload_n dX1_chain_16 rfl ?_
        refine r_callV1 dX1_chain_17 lk_X1_64 (ly_4 hE) rfl (Nat.le_of_ble_eq_true rfl) (sp_joins1 hE hs.1.2.2.2.2.1 (fun _ => ?_) (fun y => absurd ht y))
        refine r_if_eq (tgt := 57) dX1_chain_20 (by decide) (fun hqz => absurd hqz (by decide)) (fun _ => ?_)
        refine r_aload_n dX1_chain_23 rfl ?_
        refine r_getI dX1_chain_24 fl_X1_52 (ly_4 hE) rfl ?_
        refine r_rw (y := tk f z j) hs.1.2.2.2.2.1 ?_
        refine r_topi (fun v27 e27 => ?_)
        refine r_istore (loc' := [(4, .int v27), (3, .int (nI q)), (0, .ref 4), (1, .int 1), (2, .int (nI op))]) dX1_chain_27 (by decide) rfl ?_
        refine r_aload_n dX1_chain_29 rfl ?_
        refine r_callV0 dX1_chain_30 lk_X1_38 (ly_4 hE) rfl (Nat.le_of_ble_eq_true rfl) (sp_advance hE hz hf hs.1.1 hs.1.2.1 hs.1.2.2.1 (fun A1 f1 t1 => ?_))
        have hs1 := hs.adv f1 t1
        refine r_aload_n dX1_chain_33 rfl ?_
        refine r_iload_n dX1_chain_34 rfl ?_
        refine r_iload_n dX1_chain_35 rfl ?_
        refine r_callV2 dX1_chain_36 lk_X1_61 (ly_4 hE) rfl (Nat.le_of_ble_eq_true rfl) (hI A1 L _ hs1 (fun A2 f2 q2 => ?_))
        have c2 : CS A2 f z T j1 (out ++ c1) := q2
        refine r_aload_n dX1_chain_39 rfl ?_
        refine r_getR dX1_chain_40 fl_X1_15 (ly_4 hE) rfl ?_
        refine r_iload dX1_chain_43 rfl ?_
        refine r_callS1 dX1_chain_45 lk_X1_68 (Nat.le_of_ble_eq_true rfl) (sp_stepOf (by rw [e27]; exact jn_dT ht) ?_)
        refine r_callV1 dX1_chain_48 lk_X1_72 (ly_3 hE) rfl (Nat.le_of_ble_eq_true rfl) (add_c (y := dO (tk f z j)) hE hT c2 (by omega) (by rw [e27]) (fun A3 f3 c3 => ?_))
        refine r_iinc (v := (nI (q + 1))) (loc' := [(3, .int (nI (q + 1))), (4, .int v27), (0, .ref 4), (1, .int 1), (2, .int (nI op))]) dX1_chain_51 rfl ((nI_succ _).symm) (by decide) rfl ?_
        refine r_goto (tgt := 8) dX1_chain_54 (by decide) ?_
        refine qG.pick [0, 2, 3, 4] rfl ?_
        exact ih (by omega) op j1 (e + 10) (q + 1) (out ++ c1 ++ [dO (tk f z j)]) A3 L Ph pv.1 (by rw [List.length_append, List.length_singleton]; omega) hop (by omega) (by omega) (by omega) c3 (fun A' fa ca => hk' A' ((((f1.cf (by decide)).tr f2).tr f3).tr fa) ca)
    · rw [pz_t0 ht] at hk
      refine r_iload_n dX1_chain_8 rfl ?_
      refine r_sipush (v := 160) dX1_chain_9 rfl ?_
      refine r_icmp_ge (tgt := 57) dX1_chain_12 (by decide) (fun hqz => absurd hqz (nI_ge (show q < 160 by omega) (by decide))) (fun _ => ?_)
      refine r_aload_n dX1_chain_15 rfl ?_
      refine r_iload_n dX1_chain_16 rfl ?_
      refine r_callV1 dX1_chain_17 lk_X1_64 (ly_4 hE) rfl (Nat.le_of_ble_eq_true rfl) (sp_joins1 hE hs.1.2.2.2.2.1 (fun y => absurd y ht) (fun _ => ?_))
      refine r_if_eq (tgt := 57) dX1_chain_20 (by decide) (fun _ => ?_) (fun hqz => absurd (by decide) hqz)
      refine r_return dX1_chain_57 rfl ?_
      refine hk A CF.rf ?_
      show CS A f z T j (out ++ [])
      rw [List.append_nil]
      exact hs
set_option maxRecDepth 100000 in
set_option maxHeartbeats 1000000 in
theorem hc1 (hE : hC E) (hz : z ≤ 160) (hf : ∀ j, j < z → ∃ b, b < 256 ∧ f j = nI b) (hT : T < 6) {F0 : Nat} (hL : ∀ F, F < F0 → HC E f z T F mm_X1_link 1 (lk 1) 4 6) : HC E f z T F0 mm_X1_chain 1 1 5 7 := by
  intro op i e out hi ho hop hF hd A L Ph hs hk
  obtain ⟨F, rfl⟩ : ∃ F, F0 = F + 1 := ⟨F0 - 1, by omega⟩
  obtain ⟨e, rfl⟩ : ∃ e', e = e' + 10 := ⟨e - 10, by omega⟩
  have hI := hL F (by omega) op i (e + 9) out hi ho hop (by omega) (by omega)
  have h160 := (tE_le (f := f) hz i).1
  rcases rs_cases (pz (tk f z) (am f z) F (lk 1) op i) with ⟨j1, e1⟩ | ⟨j1, c1, e1⟩
  · rw [pz_c0 (by decide) e1] at hk
    rw [e1] at hI
    refine qC.enter (by decide) (Nat.le_of_ble_eq_true rfl) ?_
    refine r_aload_n dX1_chain_0 rfl ?_
    refine r_iload_n dX1_chain_1 rfl ?_
    refine r_iload_n dX1_chain_2 rfl ?_
    refine r_callV2 dX1_chain_3 lk_X1_61 (ly_4 hE) rfl (Nat.le_of_ble_eq_true rfl) (hI A L _ hs (fun A1 f1 c1 => ?_))
    refine r_iconst (v := 0) dX1_chain_6 rfl ?_
    refine r_istore_n (loc' := [(3, .int 0), (0, .ref 4), (1, .int 1), (2, .int (nI op))]) dX1_chain_7 (by decide) rfl ?_
    refine qG.pick [0, 1, 2, 3] rfl ?_
    exact loop1_x hE hz hT (show CX A1 f z T j1 from c1) (fun A2 f2 c2 => hk A2 (f1.tr f2) c2) (Nat.zero_le _)
  · rw [e1] at hI
    have pv := pzv hz hf (by decide) e1 hi
    have plt := pv.2.2.1 (by decide)
    have hv1 := (tE_le (f := f) hz j1).1
    have hk' : ∀ A', CF T A A' → CQ A' f z T (out ++ c1) (pz (tk f z) (am f z) F (1 + 10) op j1) → Ph none A' L := by
      intro A' fa ca
      refine hk A' fa ?_
      rcases rs_cases (pz (tk f z) (am f z) F (1 + 10) op j1) with ⟨j2, e2⟩ | ⟨j2, c2, e2⟩
      · rw [pz_c1 (by decide) e1 e2]
        rw [e2] at ca
        exact ca
      · rw [pz_c2 (by decide) e1 e2]
        rw [e2] at ca
        have ca : CS A' f z T j2 ((out ++ c1) ++ c2) := ca
        show CS A' f z T j2 (out ++ (c1 ++ c2))
        rw [← List.append_assoc]
        exact ca
    refine qC.enter (by decide) (Nat.le_of_ble_eq_true rfl) ?_
    refine r_aload_n dX1_chain_0 rfl ?_
    refine r_iload_n dX1_chain_1 rfl ?_
    refine r_iload_n dX1_chain_2 rfl ?_
    refine r_callV2 dX1_chain_3 lk_X1_61 (ly_4 hE) rfl (Nat.le_of_ble_eq_true rfl) (hI A L _ hs (fun A1 f1 q1 => ?_))
    have c2 : CS A1 f z T j1 (out ++ c1) := q1
    refine r_iconst (v := 0) dX1_chain_6 rfl ?_
    refine r_istore_n (loc' := [(3, .int 0), (0, .ref 4), (1, .int 1), (2, .int (nI op))]) dX1_chain_7 (by decide) rfl ?_
    refine qG.pick [0, 1, 2, 3] rfl ?_
    exact cl_loop1 hE hz hf hT (F0 := F) (fun F' h => hL F' (by omega)) F (Nat.le_refl _) op j1 (e + 10) 0 (out ++ c1) A1 L Ph pv.1 (by rw [List.length_append]; omega) hop (by omega) (by omega) (by omega) c2 (fun A' fa ca => hk' A' (f1.tr fa) ca)
set_option maxRecDepth 100000 in
set_option maxHeartbeats 1000000 in
theorem hl0 {F : Nat} (hE : hC E) (h : HC E f z T F mm_X1_chain 1 1 5 7) : HC E f z T F mm_X1_link 0 (lk 0) 5 8 := by
  intro op i e out hi ho hop hF hd A L Ph hs hk
  obtain ⟨e, rfl⟩ : ∃ e', e = e' + 1 := ⟨e - 1, by omega⟩
  have hI := h op i e out hi ho hop hF (by omega)
  refine qC.enter (by decide) (Nat.le_of_ble_eq_true rfl) ?_
  refine r_iload_n dX1_link_0 rfl ?_
  refine r_iconst (v := 3) dX1_link_1 rfl ?_
  refine r_icmp_ne (tgt := 13) dX1_link_2 (by decide) (fun _ => ?_) (fun hqz => absurd hqz (by decide))
  refine r_iload_n dX1_link_13 rfl ?_
  refine r_iconst (v := 1) dX1_link_14 rfl ?_
  refine r_icmp_ne (tgt := 26) dX1_link_15 (by decide) (fun _ => ?_) (fun hqz => absurd hqz (by decide))
  refine r_aload_n dX1_link_26 rfl ?_
  refine r_iload_n dX1_link_27 rfl ?_
  refine r_iconst (v := 1) dX1_link_28 rfl ?_
  refine r_iadd dX1_link_29 ?_
  refine r_rw (y := 1) (by decide) ?_
  refine r_iload_n dX1_link_30 rfl ?_
  refine r_callV2 dX1_link_31 lk_X1_45 (ly_4 hE) rfl (Nat.le_of_ble_eq_true rfl) (hI A L _ hs (fun A1 f1 c1 => ?_))
  refine r_return dX1_link_34 rfl ?_
  exact hk A1 f1 c1
set_option maxRecDepth 100000 in
set_option maxHeartbeats 1000000 in
theorem cl_loop0 (hE : hC E) (hz : z ≤ 160) (hf : ∀ j, j < z → ∃ b, b < 256 ∧ f j = nI b) (hT : T < 6) {F0 : Nat} (hL : ∀ F, F < F0 → HC E f z T F mm_X1_link 0 (lk 0) 5 8) : ∀ F, F ≤ F0 → ∀ (op j e q : Nat) (out : List Int32) (A : mA) (L : mJ) (Ph : mP), j ≤ tE f z j → out.length ≤ j → op ≤ 5 → q < j → 16 * (161 - j) + 1 ≤ F → 10 + 12 * (5 - op) + 9 ≤ e → CS A f z T j out → (∀ A', CF T A A' → CQ A' f z T out (pz (tk f z) (am f z) F (0 + 10) op j) → Ph none A' L) → qG E mm_X1_chain (e + 1) 8 [(3, .int (nI q)), (0, .ref 4), (1, .int 0), (2, .int (nI op))] [] A L Ph := by
  intro F
  induction F with
  | zero => intro _ op j e q out A L Ph _ _ _ _ hF; omega
  | succ F ih =>
    intro hF0 op j e q out A L Ph hj ho hop hq hF hd hs hk
    obtain ⟨e, rfl⟩ : ∃ e', e = e' + 10 := ⟨e - 10, by omega⟩
    have h160 := (tE_le (f := f) hz j).1
    by_cases ht : jn 0 (tk f z j) = true
    · have hv := vl_up hz hf hj (dT_ne (jn_dT ht))
      have hI := hL F (by omega) op (j + 1) (e + 9) out hv.1 (by omega) hop (by omega) (by omega)
      rcases rs_cases (pz (tk f z) (am f z) F (lk 0) op (j + 1)) with ⟨j1, e1⟩ | ⟨j1, c1, e1⟩
      · rw [pz_t1 ht e1] at hk
        rw [e1] at hI
        refine r_iload_n dX1_chain_8 rfl ?_
        refine r_sipush (v := 160) dX1_chain_9 rfl ?_
        refine r_icmp_ge (tgt := 57) dX1_chain_12 (by decide) (fun hqz => absurd hqz (nI_ge (show q < 160 by omega) (by decide))) (fun _ => ?_)
        refine r_aload_n dX1_chain_15 rfl ?_
        refine r_iload_n dX1_chain_16 rfl ?_
        refine r_callV1 dX1_chain_17 lk_X1_64 (ly_4 hE) rfl (Nat.le_of_ble_eq_true rfl) (sp_joins0 hE hs.1.2.2.2.2.1 (fun _ => ?_) (fun y => absurd ht y))
        refine r_if_eq (tgt := 57) dX1_chain_20 (by decide) (fun hqz => absurd hqz (by decide)) (fun _ => ?_)
        refine r_aload_n dX1_chain_23 rfl ?_
        refine r_getI dX1_chain_24 fl_X1_52 (ly_4 hE) rfl ?_
        refine r_rw (y := tk f z j) hs.1.2.2.2.2.1 ?_
        refine r_topi (fun v27 e27 => ?_)
        refine r_istore (loc' := [(4, .int v27), (3, .int (nI q)), (0, .ref 4), (1, .int 0), (2, .int (nI op))]) dX1_chain_27 (by decide) rfl ?_
        refine r_aload_n dX1_chain_29 rfl ?_
        refine r_callV0 dX1_chain_30 lk_X1_38 (ly_4 hE) rfl (Nat.le_of_ble_eq_true rfl) (sp_advance hE hz hf hs.1.1 hs.1.2.1 hs.1.2.2.1 (fun A1 f1 t1 => ?_))
        have hs1 := hs.adv f1 t1
        refine r_aload_n dX1_chain_33 rfl ?_
        refine r_iload_n dX1_chain_34 rfl ?_
        refine r_iload_n dX1_chain_35 rfl ?_
        refine r_callV2 dX1_chain_36 lk_X1_61 (ly_4 hE) rfl (Nat.le_of_ble_eq_true rfl) (hI A1 L _ hs1 (fun A2 f2 q2 => ?_))
        have c2 : CX A2 f z T j1 := q2
        refine r_aload_n dX1_chain_39 rfl ?_
        refine r_getR dX1_chain_40 fl_X1_15 (ly_4 hE) rfl ?_
        refine r_iload dX1_chain_43 rfl ?_
        refine r_callS1 dX1_chain_45 lk_X1_68 (Nat.le_of_ble_eq_true rfl) (sp_stepOf (by rw [e27]; exact jn_dT ht) ?_)
        refine r_callV1 dX1_chain_48 lk_X1_72 (ly_3 hE) rfl (Nat.le_of_ble_eq_true rfl) (add_x hE hT c2 (fun A3 f3 c3 => ?_))
        refine r_iinc (v := (nI (q + 1))) (loc' := [(3, .int (nI (q + 1))), (4, .int v27), (0, .ref 4), (1, .int 0), (2, .int (nI op))]) dX1_chain_51 rfl ((nI_succ _).symm) (by decide) rfl ?_
        refine r_goto (tgt := 8) dX1_chain_54 (by decide) ?_
        refine qG.pick [0, 2, 3, 4] rfl ?_
        exact loop0_x hE hz hT c3 (fun A4 f4 c4 => hk A4 ((((f1.cf (by decide)).tr f2).tr f3).tr f4) c4) (by omega)
      · rw [e1] at hI
        have pv := pzv hz hf (by decide) e1 hv.1
        have hlen : (out ++ c1).length ≤ j1 - 1 := by rw [List.length_append]; omega
        have hv1 := (tE_le (f := f) hz j1).1
        have hk' : ∀ A', CF T A A' → CQ A' f z T (out ++ c1 ++ [dO (tk f z j)]) (pz (tk f z) (am f z) F (0 + 10) op j1) → Ph none A' L := by
          intro A' fa ca
          refine hk A' fa ?_
          rcases rs_cases (pz (tk f z) (am f z) F (0 + 10) op j1) with ⟨j2, e2⟩ | ⟨j2, c2, e2⟩
          · rw [pz_t2 ht e1 e2]
            rw [e2] at ca
            exact ca
          · rw [pz_t3 ht e1 e2]
            rw [e2] at ca
            have ca : CS A' f z T j2 ((out ++ c1 ++ [dO (tk f z j)]) ++ c2) := ca
            show CS A' f z T j2 (out ++ (c1 ++ (dO (tk f z j) :: c2)))
            rw [show out ++ (c1 ++ (dO (tk f z j) :: c2)) = (out ++ c1 ++ [dO (tk f z j)]) ++ c2 by simp]
            exact ca
        refine r_iload_n dX1_chain_8 rfl ?_
        refine r_sipush (v := 160) dX1_chain_9 rfl ?_
        refine r_icmp_ge (tgt := 57) dX1_chain_12 (by decide) (fun hqz => absurd hqz (nI_ge (show q < 160 by omega) (by decide))) (fun _ => ?_)
        refine r_aload_n dX1_chain_15 rfl ?_
        refine r_iload_n dX1_chain_16 rfl ?_
        refine r_callV1 dX1_chain_17 lk_X1_64 (ly_4 hE) rfl (Nat.le_of_ble_eq_true rfl) (sp_joins0 hE hs.1.2.2.2.2.1 (fun _ => ?_) (fun y => absurd ht y))
        refine r_if_eq (tgt := 57) dX1_chain_20 (by decide) (fun hqz => absurd hqz (by decide)) (fun _ => ?_)
        refine r_aload_n dX1_chain_23 rfl ?_
        refine r_getI dX1_chain_24 fl_X1_52 (ly_4 hE) rfl ?_
        refine r_rw (y := tk f z j) hs.1.2.2.2.2.1 ?_
        refine r_topi (fun v27 e27 => ?_)
        refine r_istore (loc' := [(4, .int v27), (3, .int (nI q)), (0, .ref 4), (1, .int 0), (2, .int (nI op))]) dX1_chain_27 (by decide) rfl ?_
        refine r_aload_n dX1_chain_29 rfl ?_
        refine r_callV0 dX1_chain_30 lk_X1_38 (ly_4 hE) rfl (Nat.le_of_ble_eq_true rfl) (sp_advance hE hz hf hs.1.1 hs.1.2.1 hs.1.2.2.1 (fun A1 f1 t1 => ?_))
        have hs1 := hs.adv f1 t1
        refine r_aload_n dX1_chain_33 rfl ?_
        refine r_iload_n dX1_chain_34 rfl ?_
        refine r_iload_n dX1_chain_35 rfl ?_
        refine r_callV2 dX1_chain_36 lk_X1_61 (ly_4 hE) rfl (Nat.le_of_ble_eq_true rfl) (hI A1 L _ hs1 (fun A2 f2 q2 => ?_))
        have c2 : CS A2 f z T j1 (out ++ c1) := q2
        refine r_aload_n dX1_chain_39 rfl ?_
        refine r_getR dX1_chain_40 fl_X1_15 (ly_4 hE) rfl ?_
        refine r_iload dX1_chain_43 rfl ?_
        refine r_callS1 dX1_chain_45 lk_X1_68 (Nat.le_of_ble_eq_true rfl) (sp_stepOf (by rw [e27]; exact jn_dT ht) ?_)
        refine r_callV1 dX1_chain_48 lk_X1_72 (ly_3 hE) rfl (Nat.le_of_ble_eq_true rfl) (add_c (y := dO (tk f z j)) hE hT c2 (by omega) (by rw [e27]) (fun A3 f3 c3 => ?_))
        refine r_iinc (v := (nI (q + 1))) (loc' := [(3, .int (nI (q + 1))), (4, .int v27), (0, .ref 4), (1, .int 0), (2, .int (nI op))]) dX1_chain_51 rfl ((nI_succ _).symm) (by decide) rfl ?_
        refine r_goto (tgt := 8) dX1_chain_54 (by decide) ?_
        refine qG.pick [0, 2, 3, 4] rfl ?_
        exact ih (by omega) op j1 (e + 10) (q + 1) (out ++ c1 ++ [dO (tk f z j)]) A3 L Ph pv.1 (by rw [List.length_append, List.length_singleton]; omega) hop (by omega) (by omega) (by omega) c3 (fun A' fa ca => hk' A' ((((f1.cf (by decide)).tr f2).tr f3).tr fa) ca)
    · rw [pz_t0 ht] at hk
      refine r_iload_n dX1_chain_8 rfl ?_
      refine r_sipush (v := 160) dX1_chain_9 rfl ?_
      refine r_icmp_ge (tgt := 57) dX1_chain_12 (by decide) (fun hqz => absurd hqz (nI_ge (show q < 160 by omega) (by decide))) (fun _ => ?_)
      refine r_aload_n dX1_chain_15 rfl ?_
      refine r_iload_n dX1_chain_16 rfl ?_
      refine r_callV1 dX1_chain_17 lk_X1_64 (ly_4 hE) rfl (Nat.le_of_ble_eq_true rfl) (sp_joins0 hE hs.1.2.2.2.2.1 (fun y => absurd y ht) (fun _ => ?_))
      refine r_if_eq (tgt := 57) dX1_chain_20 (by decide) (fun _ => ?_) (fun hqz => absurd (by decide) hqz)
      refine r_return dX1_chain_57 rfl ?_
      refine hk A CF.rf ?_
      show CS A f z T j (out ++ [])
      rw [List.append_nil]
      exact hs
set_option maxRecDepth 100000 in
set_option maxHeartbeats 1000000 in
theorem hc0 (hE : hC E) (hz : z ≤ 160) (hf : ∀ j, j < z → ∃ b, b < 256 ∧ f j = nI b) (hT : T < 6) {F0 : Nat} (hL : ∀ F, F < F0 → HC E f z T F mm_X1_link 0 (lk 0) 5 8) : HC E f z T F0 mm_X1_chain 0 0 6 9 := by
  intro op i e out hi ho hop hF hd A L Ph hs hk
  obtain ⟨F, rfl⟩ : ∃ F, F0 = F + 1 := ⟨F0 - 1, by omega⟩
  obtain ⟨e, rfl⟩ : ∃ e', e = e' + 10 := ⟨e - 10, by omega⟩
  have hI := hL F (by omega) op i (e + 9) out hi ho hop (by omega) (by omega)
  have h160 := (tE_le (f := f) hz i).1
  rcases rs_cases (pz (tk f z) (am f z) F (lk 0) op i) with ⟨j1, e1⟩ | ⟨j1, c1, e1⟩
  · rw [pz_c0 (by decide) e1] at hk
    rw [e1] at hI
    refine qC.enter (by decide) (Nat.le_of_ble_eq_true rfl) ?_
    refine r_aload_n dX1_chain_0 rfl ?_
    refine r_iload_n dX1_chain_1 rfl ?_
    refine r_iload_n dX1_chain_2 rfl ?_
    refine r_callV2 dX1_chain_3 lk_X1_61 (ly_4 hE) rfl (Nat.le_of_ble_eq_true rfl) (hI A L _ hs (fun A1 f1 c1 => ?_))
    refine r_iconst (v := 0) dX1_chain_6 rfl ?_
    refine r_istore_n (loc' := [(3, .int 0), (0, .ref 4), (1, .int 0), (2, .int (nI op))]) dX1_chain_7 (by decide) rfl ?_
    refine qG.pick [0, 1, 2, 3] rfl ?_
    exact loop0_x hE hz hT (show CX A1 f z T j1 from c1) (fun A2 f2 c2 => hk A2 (f1.tr f2) c2) (Nat.zero_le _)
  · rw [e1] at hI
    have pv := pzv hz hf (by decide) e1 hi
    have plt := pv.2.2.1 (by decide)
    have hv1 := (tE_le (f := f) hz j1).1
    have hk' : ∀ A', CF T A A' → CQ A' f z T (out ++ c1) (pz (tk f z) (am f z) F (0 + 10) op j1) → Ph none A' L := by
      intro A' fa ca
      refine hk A' fa ?_
      rcases rs_cases (pz (tk f z) (am f z) F (0 + 10) op j1) with ⟨j2, e2⟩ | ⟨j2, c2, e2⟩
      · rw [pz_c1 (by decide) e1 e2]
        rw [e2] at ca
        exact ca
      · rw [pz_c2 (by decide) e1 e2]
        rw [e2] at ca
        have ca : CS A' f z T j2 ((out ++ c1) ++ c2) := ca
        show CS A' f z T j2 (out ++ (c1 ++ c2))
        rw [← List.append_assoc]
        exact ca
    refine qC.enter (by decide) (Nat.le_of_ble_eq_true rfl) ?_
    refine r_aload_n dX1_chain_0 rfl ?_
    refine r_iload_n dX1_chain_1 rfl ?_
    refine r_iload_n dX1_chain_2 rfl ?_
    refine r_callV2 dX1_chain_3 lk_X1_61 (ly_4 hE) rfl (Nat.le_of_ble_eq_true rfl) (hI A L _ hs (fun A1 f1 q1 => ?_))
    have c2 : CS A1 f z T j1 (out ++ c1) := q1
    refine r_iconst (v := 0) dX1_chain_6 rfl ?_
    refine r_istore_n (loc' := [(3, .int 0), (0, .ref 4), (1, .int 0), (2, .int (nI op))]) dX1_chain_7 (by decide) rfl ?_
    refine qG.pick [0, 1, 2, 3] rfl ?_
    exact cl_loop0 hE hz hf hT (F0 := F) (fun F' h => hL F' (by omega)) F (Nat.le_refl _) op j1 (e + 10) 0 (out ++ c1) A1 L Ph pv.1 (by rw [List.length_append]; omega) hop (by omega) (by omega) (by omega) c2 (fun A' fa ca => hk' A' (f1.tr fa) ca)
set_option maxRecDepth 100000 in
set_option maxHeartbeats 1000000 in
theorem hden (hE : hC E) (hz : z ≤ 160) (hf : ∀ j, j < z → ∃ b, b < 256 ∧ f j = nI b) (hT : T < 6) {F : Nat} (h2 : HC E f z T F mm_X1_chain 2 2 3 4) (hD : HO E f z T F mm_X1_denial 4 4 5) : HO E f z T (F + 1) mm_X1_denial 4 4 5 := by
  intro op i e out hi ho hop hF hd A L Ph hs hk
  obtain ⟨e, rfl⟩ : ∃ e', e = e' + 10 := ⟨e - 10, by omega⟩
  have h160 := (tE_le (f := f) hz i).1
  by_cases ht : tk f z i = 11 ∧ op < 5
  · have hv := vl_up hz hf hi (by rw [ht.1]; decide)
    have hI := hD (op + 1) (i + 1) (e + 9) out hv.1 (by omega) (by omega) (by omega) (by omega)
    rcases rs_cases (pz (tk f z) (am f z) F 4 (op + 1) (i + 1)) with ⟨j1, e1⟩ | ⟨j1, c1, e1⟩
    · rw [pz_n0 ht e1] at hk
      rw [e1] at hI
      refine qC.enter (by decide) (Nat.le_of_ble_eq_true rfl) ?_
      refine r_aload_n dX1_denial_0 rfl ?_
      refine r_getI dX1_denial_1 fl_X1_52 (ly_4 hE) rfl ?_
      refine r_rw (y := tk f z i) hs.1.2.2.2.2.1 ?_
      refine r_bipush (v := 11) dX1_denial_4 rfl ?_
      refine r_icmp_ne (tgt := 35) dX1_denial_6 (by decide) (fun hqz => absurd ht.1 hqz) (fun _ => ?_)
      refine r_iload_n dX1_denial_9 rfl ?_
      refine r_iconst (v := 5) dX1_denial_10 rfl ?_
      refine r_icmp_ge (tgt := 35) dX1_denial_11 (by decide) (fun hqz => absurd hqz (nI_ge ht.2 (by decide))) (fun _ => ?_)
      refine r_aload_n dX1_denial_14 rfl ?_
      refine r_callV0 dX1_denial_15 lk_X1_38 (ly_4 hE) rfl (Nat.le_of_ble_eq_true rfl) (sp_advance hE hz hf hs.1.1 hs.1.2.1 hs.1.2.2.1 (fun A1 f1 t1 => ?_))
      have hs1 := hs.adv f1 t1
      refine r_aload_n dX1_denial_18 rfl ?_
      refine r_iload_n dX1_denial_19 rfl ?_
      refine r_iconst (v := 1) dX1_denial_20 rfl ?_
      refine r_iadd dX1_denial_21 ?_
      refine r_rw (y := nI (op + 1)) (nI_1 op) ?_
      refine r_callV1 dX1_denial_22 lk_X1_78 (ly_4 hE) rfl (Nat.le_of_ble_eq_true rfl) (hI A1 L _ hs1 (fun A2 f2 q2 => ?_))
      have c2 : CX A2 f z T j1 := q2
      refine r_aload_n dX1_denial_25 rfl ?_
      refine r_getR dX1_denial_26 fl_X1_15 (ly_4 hE) rfl ?_
      refine r_bipush (v := (-7)) dX1_denial_29 rfl ?_
      refine r_callV1 dX1_denial_31 lk_X1_72 (ly_3 hE) rfl (Nat.le_of_ble_eq_true rfl) (add_x hE hT c2 (fun A3 f3 c3 => ?_))
      refine r_return dX1_denial_34 rfl ?_
      exact hk A3 (((f1.cf (by decide)).tr f2).tr f3) c3
    · rw [pz_n1 ht e1] at hk
      rw [e1] at hI
      have pv := pzv hz hf (by decide) e1 hv.1
      have hv1 := (tE_le (f := f) hz j1).1
      have hlen : (out ++ c1).length ≤ j1 - 1 := by rw [List.length_append]; omega
      refine qC.enter (by decide) (Nat.le_of_ble_eq_true rfl) ?_
      refine r_aload_n dX1_denial_0 rfl ?_
      refine r_getI dX1_denial_1 fl_X1_52 (ly_4 hE) rfl ?_
      refine r_rw (y := tk f z i) hs.1.2.2.2.2.1 ?_
      refine r_bipush (v := 11) dX1_denial_4 rfl ?_
      refine r_icmp_ne (tgt := 35) dX1_denial_6 (by decide) (fun hqz => absurd ht.1 hqz) (fun _ => ?_)
      refine r_iload_n dX1_denial_9 rfl ?_
      refine r_iconst (v := 5) dX1_denial_10 rfl ?_
      refine r_icmp_ge (tgt := 35) dX1_denial_11 (by decide) (fun hqz => absurd hqz (nI_ge ht.2 (by decide))) (fun _ => ?_)
      refine r_aload_n dX1_denial_14 rfl ?_
      refine r_callV0 dX1_denial_15 lk_X1_38 (ly_4 hE) rfl (Nat.le_of_ble_eq_true rfl) (sp_advance hE hz hf hs.1.1 hs.1.2.1 hs.1.2.2.1 (fun A1 f1 t1 => ?_))
      have hs1 := hs.adv f1 t1
      refine r_aload_n dX1_denial_18 rfl ?_
      refine r_iload_n dX1_denial_19 rfl ?_
      refine r_iconst (v := 1) dX1_denial_20 rfl ?_
      refine r_iadd dX1_denial_21 ?_
      refine r_rw (y := nI (op + 1)) (nI_1 op) ?_
      refine r_callV1 dX1_denial_22 lk_X1_78 (ly_4 hE) rfl (Nat.le_of_ble_eq_true rfl) (hI A1 L _ hs1 (fun A2 f2 q2 => ?_))
      have c2 : CS A2 f z T j1 (out ++ c1) := q2
      refine r_aload_n dX1_denial_25 rfl ?_
      refine r_getR dX1_denial_26 fl_X1_15 (ly_4 hE) rfl ?_
      refine r_bipush (v := (-7)) dX1_denial_29 rfl ?_
      refine r_callV1 dX1_denial_31 lk_X1_72 (ly_3 hE) rfl (Nat.le_of_ble_eq_true rfl) (add_c (y := -22) hE hT c2 (by omega) (by decide) (fun A3 f3 c3 => ?_))
      refine r_return dX1_denial_34 rfl ?_
      refine hk A3 (((f1.cf (by decide)).tr f2).tr f3) ?_
      show CS A3 f z T j1 (out ++ (c1 ++ [-22]))
      rw [← List.append_assoc]
      exact c3
  · have hI := h2 op i (e + 9) out hi ho hop (by omega) (by omega)
    rcases rs_cases (pz (tk f z) (am f z) F 2 op i) with ⟨j1, e1⟩ | ⟨j1, c1, e1⟩
    · rw [pz_d0 ht e1] at hk
      rw [e1] at hI
      by_cases h11 : tk f z i = 11
      · have hop5 : ¬ op < 5 := fun y => ht ⟨h11, y⟩
        refine qC.enter (by decide) (Nat.le_of_ble_eq_true rfl) ?_
        refine r_aload_n dX1_denial_0 rfl ?_
        refine r_getI dX1_denial_1 fl_X1_52 (ly_4 hE) rfl ?_
        refine r_rw (y := tk f z i) hs.1.2.2.2.2.1 ?_
        refine r_bipush (v := 11) dX1_denial_4 rfl ?_
        refine r_icmp_ne (tgt := 35) dX1_denial_6 (by decide) (fun hqz => absurd h11 hqz) (fun _ => ?_)
        refine r_iload_n dX1_denial_9 rfl ?_
        refine r_iconst (v := 5) dX1_denial_10 rfl ?_
        refine r_icmp_ge (tgt := 35) dX1_denial_11 (by decide) (fun _ => ?_) (fun hqz => absurd (nI_le (a := 5) (by omega) (by omega)) hqz)
        refine r_aload_n dX1_denial_35 rfl ?_
        refine r_iconst (v := 2) dX1_denial_36 rfl ?_
        refine r_iload_n dX1_denial_37 rfl ?_
        refine r_callV2 dX1_denial_38 lk_X1_45 (ly_4 hE) rfl (Nat.le_of_ble_eq_true rfl) (hI A L _ hs (fun A1 f1 q1 => ?_))
        have c1 : CX A1 f z T j1 := q1
        refine r_aload_n dX1_denial_41 rfl ?_
        refine r_getI dX1_denial_42 fl_X1_52 (ly_4 hE) rfl ?_
        refine r_rw (y := 302) c1.2.1 ?_
        refine r_bipush (v := 60) dX1_denial_45 rfl ?_
        refine r_icmp_eq (tgt := 59) dX1_denial_47 (by decide) (fun hqz => absurd hqz (by decide)) (fun _ => ?_)
        refine r_aload_n dX1_denial_50 rfl ?_
        refine r_getI dX1_denial_51 fl_X1_52 (ly_4 hE) rfl ?_
        refine r_rw (y := 302) c1.2.1 ?_
        refine r_bipush (v := 61) dX1_denial_54 rfl ?_
        refine r_icmp_ne (tgt := 85) dX1_denial_56 (by decide) (fun _ => ?_) (fun hqz => absurd hqz (by decide))
        refine r_return dX1_denial_85 rfl ?_
        exact hk A1 f1 c1
      · refine qC.enter (by decide) (Nat.le_of_ble_eq_true rfl) ?_
        refine r_aload_n dX1_denial_0 rfl ?_
        refine r_getI dX1_denial_1 fl_X1_52 (ly_4 hE) rfl ?_
        refine r_rw (y := tk f z i) hs.1.2.2.2.2.1 ?_
        refine r_bipush (v := 11) dX1_denial_4 rfl ?_
        refine r_icmp_ne (tgt := 35) dX1_denial_6 (by decide) (fun _ => ?_) (fun hqz => absurd hqz h11)
        refine r_aload_n dX1_denial_35 rfl ?_
        refine r_iconst (v := 2) dX1_denial_36 rfl ?_
        refine r_iload_n dX1_denial_37 rfl ?_
        refine r_callV2 dX1_denial_38 lk_X1_45 (ly_4 hE) rfl (Nat.le_of_ble_eq_true rfl) (hI A L _ hs (fun A1 f1 q1 => ?_))
        have c1 : CX A1 f z T j1 := q1
        refine r_aload_n dX1_denial_41 rfl ?_
        refine r_getI dX1_denial_42 fl_X1_52 (ly_4 hE) rfl ?_
        refine r_rw (y := 302) c1.2.1 ?_
        refine r_bipush (v := 60) dX1_denial_45 rfl ?_
        refine r_icmp_eq (tgt := 59) dX1_denial_47 (by decide) (fun hqz => absurd hqz (by decide)) (fun _ => ?_)
        refine r_aload_n dX1_denial_50 rfl ?_
        refine r_getI dX1_denial_51 fl_X1_52 (ly_4 hE) rfl ?_
        refine r_rw (y := 302) c1.2.1 ?_
        refine r_bipush (v := 61) dX1_denial_54 rfl ?_
        refine r_icmp_ne (tgt := 85) dX1_denial_56 (by decide) (fun _ => ?_) (fun hqz => absurd hqz (by decide))
        refine r_return dX1_denial_85 rfl ?_
        exact hk A1 f1 c1
    · rw [e1] at hI
      have pv := pzv hz hf (by decide) e1 hi
      have hv1 := (tE_le (f := f) hz j1).1
      have hlen : (out ++ c1).length ≤ j1 := by rw [List.length_append]; omega
      have hI : PC E f z T mm_X1_chain [.ref 4, .int 2, .int (nI op)] (e + 10) i out (.inr (j1, c1)) := hI
      by_cases hc : tk f z j1 = 60 ∨ tk f z j1 = 61
      · have hv2 := vl_up hz hf pv.1 (by rcases hc with q | q <;> rw [q] <;> decide)
        have hdt : dT (tk f z j1) := by
          rcases hc with q | q <;> rw [q]
          · exact Or.inr (Or.inr (Or.inr (Or.inr (Or.inr (Or.inl rfl)))))
          · exact Or.inr (Or.inr (Or.inr (Or.inr (Or.inr (Or.inr rfl)))))
        have hI2 := h2 op (j1 + 1) (e + 9) (out ++ c1) hv2.1 (by omega) hop (by omega) (by omega)
        rcases rs_cases (pz (tk f z) (am f z) F 2 op (j1 + 1)) with ⟨j2, e2⟩ | ⟨j2, c2, e2⟩
        · rw [pz_d2 ht e1 hc e2] at hk
          rw [e2] at hI2
          by_cases h11 : tk f z i = 11
          · have hop5 : ¬ op < 5 := fun y => ht ⟨h11, y⟩
            refine qC.enter (by decide) (Nat.le_of_ble_eq_true rfl) ?_
            refine r_aload_n dX1_denial_0 rfl ?_
            refine r_getI dX1_denial_1 fl_X1_52 (ly_4 hE) rfl ?_
            refine r_rw (y := tk f z i) hs.1.2.2.2.2.1 ?_
            refine r_bipush (v := 11) dX1_denial_4 rfl ?_
            refine r_icmp_ne (tgt := 35) dX1_denial_6 (by decide) (fun hqz => absurd h11 hqz) (fun _ => ?_)
            refine r_iload_n dX1_denial_9 rfl ?_
            refine r_iconst (v := 5) dX1_denial_10 rfl ?_
            refine r_icmp_ge (tgt := 35) dX1_denial_11 (by decide) (fun _ => ?_) (fun hqz => absurd (nI_le (a := 5) (by omega) (by omega)) hqz)
            refine r_aload_n dX1_denial_35 rfl ?_
            refine r_iconst (v := 2) dX1_denial_36 rfl ?_
            refine r_iload_n dX1_denial_37 rfl ?_
            refine r_callV2 dX1_denial_38 lk_X1_45 (ly_4 hE) rfl (Nat.le_of_ble_eq_true rfl) (hI A L _ hs (fun A1 f1 q1 => ?_))
            have k1 : CS A1 f z T j1 (out ++ c1) := q1
            refine r_aload_n dX1_denial_41 rfl ?_
            refine r_getI dX1_denial_42 fl_X1_52 (ly_4 hE) rfl ?_
            refine r_rw (y := tk f z j1) k1.1.2.2.2.2.1 ?_
            refine r_bipush (v := 60) dX1_denial_45 rfl ?_
            refine r_icmp_eq (tgt := 59) dX1_denial_47 (by decide) (fun b47 => ?_) (fun b47 => ?_)
            · refine r_aload_n dX1_denial_59 rfl ?_
              refine r_getI dX1_denial_60 fl_X1_52 (ly_4 hE) rfl ?_
              refine r_rw (y := tk f z j1) k1.1.2.2.2.2.1 ?_
              refine r_topi (fun v63 e63 => ?_)
              refine r_istore_n (loc' := [(2, .int v63), (0, .ref 4), (1, .int (nI op))]) dX1_denial_63 (by decide) rfl ?_
              refine r_aload_n dX1_denial_64 rfl ?_
              refine r_callV0 dX1_denial_65 lk_X1_38 (ly_4 hE) rfl (Nat.le_of_ble_eq_true rfl) (sp_advance hE hz hf k1.1.1 k1.1.2.1 k1.1.2.2.1 (fun A2 f2 t2 => ?_))
              have hs2 := k1.adv f2 t2
              refine r_aload_n dX1_denial_68 rfl ?_
              refine r_iconst (v := 2) dX1_denial_69 rfl ?_
              refine r_iload_n dX1_denial_70 rfl ?_
              refine r_callV2 dX1_denial_71 lk_X1_45 (ly_4 hE) rfl (Nat.le_of_ble_eq_true rfl) (hI2 A2 L _ hs2 (fun A3 f3 q3 => ?_))
              have c3 : CX A3 f z T j2 := q3
              refine r_aload_n dX1_denial_74 rfl ?_
              refine r_getR dX1_denial_75 fl_X1_15 (ly_4 hE) rfl ?_
              refine r_iload_n dX1_denial_78 rfl ?_
              refine r_callS1 dX1_denial_79 lk_X1_68 (Nat.le_of_ble_eq_true rfl) (sp_stepOf (by rw [e63]; exact hdt) ?_)
              refine r_callV1 dX1_denial_82 lk_X1_72 (ly_3 hE) rfl (Nat.le_of_ble_eq_true rfl) (add_x hE hT c3 (fun A4 f4 c4 => ?_))
              refine r_return dX1_denial_85 rfl ?_
              exact hk A4 (((f1.tr (f2.cf (by decide))).tr f3).tr f4) c4
            · refine r_aload_n dX1_denial_50 rfl ?_
              refine r_getI dX1_denial_51 fl_X1_52 (ly_4 hE) rfl ?_
              refine r_rw (y := tk f z j1) k1.1.2.2.2.2.1 ?_
              refine r_bipush (v := 61) dX1_denial_54 rfl ?_
              refine r_icmp_ne (tgt := 85) dX1_denial_56 (by decide) (fun b56 => ?_) (fun b56 => ?_)
              · exact absurd hc (fun y => y.elim b47 b56)
              · refine r_aload_n dX1_denial_59 rfl ?_
                refine r_getI dX1_denial_60 fl_X1_52 (ly_4 hE) rfl ?_
                refine r_rw (y := tk f z j1) k1.1.2.2.2.2.1 ?_
                refine r_topi (fun v63 e63 => ?_)
                refine r_istore_n (loc' := [(2, .int v63), (0, .ref 4), (1, .int (nI op))]) dX1_denial_63 (by decide) rfl ?_
                refine r_aload_n dX1_denial_64 rfl ?_
                refine r_callV0 dX1_denial_65 lk_X1_38 (ly_4 hE) rfl (Nat.le_of_ble_eq_true rfl) (sp_advance hE hz hf k1.1.1 k1.1.2.1 k1.1.2.2.1 (fun A2 f2 t2 => ?_))
                have hs2 := k1.adv f2 t2
                refine r_aload_n dX1_denial_68 rfl ?_
                refine r_iconst (v := 2) dX1_denial_69 rfl ?_
                refine r_iload_n dX1_denial_70 rfl ?_
                refine r_callV2 dX1_denial_71 lk_X1_45 (ly_4 hE) rfl (Nat.le_of_ble_eq_true rfl) (hI2 A2 L _ hs2 (fun A3 f3 q3 => ?_))
                have c3 : CX A3 f z T j2 := q3
                refine r_aload_n dX1_denial_74 rfl ?_
                refine r_getR dX1_denial_75 fl_X1_15 (ly_4 hE) rfl ?_
                refine r_iload_n dX1_denial_78 rfl ?_
                refine r_callS1 dX1_denial_79 lk_X1_68 (Nat.le_of_ble_eq_true rfl) (sp_stepOf (by rw [e63]; exact hdt) ?_)
                refine r_callV1 dX1_denial_82 lk_X1_72 (ly_3 hE) rfl (Nat.le_of_ble_eq_true rfl) (add_x hE hT c3 (fun A4 f4 c4 => ?_))
                refine r_return dX1_denial_85 rfl ?_
                exact hk A4 (((f1.tr (f2.cf (by decide))).tr f3).tr f4) c4
          · refine qC.enter (by decide) (Nat.le_of_ble_eq_true rfl) ?_
            refine r_aload_n dX1_denial_0 rfl ?_
            refine r_getI dX1_denial_1 fl_X1_52 (ly_4 hE) rfl ?_
            refine r_rw (y := tk f z i) hs.1.2.2.2.2.1 ?_
            refine r_bipush (v := 11) dX1_denial_4 rfl ?_
            refine r_icmp_ne (tgt := 35) dX1_denial_6 (by decide) (fun _ => ?_) (fun hqz => absurd hqz h11)
            refine r_aload_n dX1_denial_35 rfl ?_
            refine r_iconst (v := 2) dX1_denial_36 rfl ?_
            refine r_iload_n dX1_denial_37 rfl ?_
            refine r_callV2 dX1_denial_38 lk_X1_45 (ly_4 hE) rfl (Nat.le_of_ble_eq_true rfl) (hI A L _ hs (fun A1 f1 q1 => ?_))
            have k1 : CS A1 f z T j1 (out ++ c1) := q1
            refine r_aload_n dX1_denial_41 rfl ?_
            refine r_getI dX1_denial_42 fl_X1_52 (ly_4 hE) rfl ?_
            refine r_rw (y := tk f z j1) k1.1.2.2.2.2.1 ?_
            refine r_bipush (v := 60) dX1_denial_45 rfl ?_
            refine r_icmp_eq (tgt := 59) dX1_denial_47 (by decide) (fun b47 => ?_) (fun b47 => ?_)
            · refine r_aload_n dX1_denial_59 rfl ?_
              refine r_getI dX1_denial_60 fl_X1_52 (ly_4 hE) rfl ?_
              refine r_rw (y := tk f z j1) k1.1.2.2.2.2.1 ?_
              refine r_topi (fun v63 e63 => ?_)
              refine r_istore_n (loc' := [(2, .int v63), (0, .ref 4), (1, .int (nI op))]) dX1_denial_63 (by decide) rfl ?_
              refine r_aload_n dX1_denial_64 rfl ?_
              refine r_callV0 dX1_denial_65 lk_X1_38 (ly_4 hE) rfl (Nat.le_of_ble_eq_true rfl) (sp_advance hE hz hf k1.1.1 k1.1.2.1 k1.1.2.2.1 (fun A2 f2 t2 => ?_))
              have hs2 := k1.adv f2 t2
              refine r_aload_n dX1_denial_68 rfl ?_
              refine r_iconst (v := 2) dX1_denial_69 rfl ?_
              refine r_iload_n dX1_denial_70 rfl ?_
              refine r_callV2 dX1_denial_71 lk_X1_45 (ly_4 hE) rfl (Nat.le_of_ble_eq_true rfl) (hI2 A2 L _ hs2 (fun A3 f3 q3 => ?_))
              have c3 : CX A3 f z T j2 := q3
              refine r_aload_n dX1_denial_74 rfl ?_
              refine r_getR dX1_denial_75 fl_X1_15 (ly_4 hE) rfl ?_
              refine r_iload_n dX1_denial_78 rfl ?_
              refine r_callS1 dX1_denial_79 lk_X1_68 (Nat.le_of_ble_eq_true rfl) (sp_stepOf (by rw [e63]; exact hdt) ?_)
              refine r_callV1 dX1_denial_82 lk_X1_72 (ly_3 hE) rfl (Nat.le_of_ble_eq_true rfl) (add_x hE hT c3 (fun A4 f4 c4 => ?_))
              refine r_return dX1_denial_85 rfl ?_
              exact hk A4 (((f1.tr (f2.cf (by decide))).tr f3).tr f4) c4
            · refine r_aload_n dX1_denial_50 rfl ?_
              refine r_getI dX1_denial_51 fl_X1_52 (ly_4 hE) rfl ?_
              refine r_rw (y := tk f z j1) k1.1.2.2.2.2.1 ?_
              refine r_bipush (v := 61) dX1_denial_54 rfl ?_
              refine r_icmp_ne (tgt := 85) dX1_denial_56 (by decide) (fun b56 => ?_) (fun b56 => ?_)
              · exact absurd hc (fun y => y.elim b47 b56)
              · refine r_aload_n dX1_denial_59 rfl ?_
                refine r_getI dX1_denial_60 fl_X1_52 (ly_4 hE) rfl ?_
                refine r_rw (y := tk f z j1) k1.1.2.2.2.2.1 ?_
                refine r_topi (fun v63 e63 => ?_)
                refine r_istore_n (loc' := [(2, .int v63), (0, .ref 4), (1, .int (nI op))]) dX1_denial_63 (by decide) rfl ?_
                refine r_aload_n dX1_denial_64 rfl ?_
                refine r_callV0 dX1_denial_65 lk_X1_38 (ly_4 hE) rfl (Nat.le_of_ble_eq_true rfl) (sp_advance hE hz hf k1.1.1 k1.1.2.1 k1.1.2.2.1 (fun A2 f2 t2 => ?_))
                have hs2 := k1.adv f2 t2
                refine r_aload_n dX1_denial_68 rfl ?_
                refine r_iconst (v := 2) dX1_denial_69 rfl ?_
                refine r_iload_n dX1_denial_70 rfl ?_
                refine r_callV2 dX1_denial_71 lk_X1_45 (ly_4 hE) rfl (Nat.le_of_ble_eq_true rfl) (hI2 A2 L _ hs2 (fun A3 f3 q3 => ?_))
                have c3 : CX A3 f z T j2 := q3
                refine r_aload_n dX1_denial_74 rfl ?_
                refine r_getR dX1_denial_75 fl_X1_15 (ly_4 hE) rfl ?_
                refine r_iload_n dX1_denial_78 rfl ?_
                refine r_callS1 dX1_denial_79 lk_X1_68 (Nat.le_of_ble_eq_true rfl) (sp_stepOf (by rw [e63]; exact hdt) ?_)
                refine r_callV1 dX1_denial_82 lk_X1_72 (ly_3 hE) rfl (Nat.le_of_ble_eq_true rfl) (add_x hE hT c3 (fun A4 f4 c4 => ?_))
                refine r_return dX1_denial_85 rfl ?_
                exact hk A4 (((f1.tr (f2.cf (by decide))).tr f3).tr f4) c4
        · rw [pz_d3 ht e1 hc e2] at hk
          rw [e2] at hI2
          have pv2 := pzv hz hf (by decide) e2 hv2.1
          have hv3 := (tE_le (f := f) hz j2).1
          have hlen2 : (out ++ c1 ++ c2).length ≤ j2 - 1 := by rw [List.length_append]; omega
          by_cases h11 : tk f z i = 11
          · have hop5 : ¬ op < 5 := fun y => ht ⟨h11, y⟩
            refine qC.enter (by decide) (Nat.le_of_ble_eq_true rfl) ?_
            refine r_aload_n dX1_denial_0 rfl ?_
            refine r_getI dX1_denial_1 fl_X1_52 (ly_4 hE) rfl ?_
            refine r_rw (y := tk f z i) hs.1.2.2.2.2.1 ?_
            refine r_bipush (v := 11) dX1_denial_4 rfl ?_
            refine r_icmp_ne (tgt := 35) dX1_denial_6 (by decide) (fun hqz => absurd h11 hqz) (fun _ => ?_)
            refine r_iload_n dX1_denial_9 rfl ?_
            refine r_iconst (v := 5) dX1_denial_10 rfl ?_
            refine r_icmp_ge (tgt := 35) dX1_denial_11 (by decide) (fun _ => ?_) (fun hqz => absurd (nI_le (a := 5) (by omega) (by omega)) hqz)
            refine r_aload_n dX1_denial_35 rfl ?_
            refine r_iconst (v := 2) dX1_denial_36 rfl ?_
            refine r_iload_n dX1_denial_37 rfl ?_
            refine r_callV2 dX1_denial_38 lk_X1_45 (ly_4 hE) rfl (Nat.le_of_ble_eq_true rfl) (hI A L _ hs (fun A1 f1 q1 => ?_))
            have k1 : CS A1 f z T j1 (out ++ c1) := q1
            refine r_aload_n dX1_denial_41 rfl ?_
            refine r_getI dX1_denial_42 fl_X1_52 (ly_4 hE) rfl ?_
            refine r_rw (y := tk f z j1) k1.1.2.2.2.2.1 ?_
            refine r_bipush (v := 60) dX1_denial_45 rfl ?_
            refine r_icmp_eq (tgt := 59) dX1_denial_47 (by decide) (fun b47 => ?_) (fun b47 => ?_)
            · refine r_aload_n dX1_denial_59 rfl ?_
              refine r_getI dX1_denial_60 fl_X1_52 (ly_4 hE) rfl ?_
              refine r_rw (y := tk f z j1) k1.1.2.2.2.2.1 ?_
              refine r_topi (fun v63 e63 => ?_)
              refine r_istore_n (loc' := [(2, .int v63), (0, .ref 4), (1, .int (nI op))]) dX1_denial_63 (by decide) rfl ?_
              refine r_aload_n dX1_denial_64 rfl ?_
              refine r_callV0 dX1_denial_65 lk_X1_38 (ly_4 hE) rfl (Nat.le_of_ble_eq_true rfl) (sp_advance hE hz hf k1.1.1 k1.1.2.1 k1.1.2.2.1 (fun A2 f2 t2 => ?_))
              have hs2 := k1.adv f2 t2
              refine r_aload_n dX1_denial_68 rfl ?_
              refine r_iconst (v := 2) dX1_denial_69 rfl ?_
              refine r_iload_n dX1_denial_70 rfl ?_
              refine r_callV2 dX1_denial_71 lk_X1_45 (ly_4 hE) rfl (Nat.le_of_ble_eq_true rfl) (hI2 A2 L _ hs2 (fun A3 f3 q3 => ?_))
              have c3 : CS A3 f z T j2 (out ++ c1 ++ c2) := q3
              refine r_aload_n dX1_denial_74 rfl ?_
              refine r_getR dX1_denial_75 fl_X1_15 (ly_4 hE) rfl ?_
              refine r_iload_n dX1_denial_78 rfl ?_
              refine r_callS1 dX1_denial_79 lk_X1_68 (Nat.le_of_ble_eq_true rfl) (sp_stepOf (by rw [e63]; exact hdt) ?_)
              refine r_callV1 dX1_denial_82 lk_X1_72 (ly_3 hE) rfl (Nat.le_of_ble_eq_true rfl) (add_c (y := dO (tk f z j1)) hE hT c3 (by omega) (by rw [e63]) (fun A4 f4 c4 => ?_))
              refine r_return dX1_denial_85 rfl ?_
              refine hk A4 (((f1.tr (f2.cf (by decide))).tr f3).tr f4) ?_
              show CS A4 f z T j2 (out ++ (c1 ++ (c2 ++ [dO (tk f z j1)])))
              rw [show out ++ (c1 ++ (c2 ++ [dO (tk f z j1)])) = out ++ c1 ++ c2 ++ [dO (tk f z j1)] by simp]
              exact c4
            · refine r_aload_n dX1_denial_50 rfl ?_
              refine r_getI dX1_denial_51 fl_X1_52 (ly_4 hE) rfl ?_
              refine r_rw (y := tk f z j1) k1.1.2.2.2.2.1 ?_
              refine r_bipush (v := 61) dX1_denial_54 rfl ?_
              refine r_icmp_ne (tgt := 85) dX1_denial_56 (by decide) (fun b56 => ?_) (fun b56 => ?_)
              · exact absurd hc (fun y => y.elim b47 b56)
              · refine r_aload_n dX1_denial_59 rfl ?_
                refine r_getI dX1_denial_60 fl_X1_52 (ly_4 hE) rfl ?_
                refine r_rw (y := tk f z j1) k1.1.2.2.2.2.1 ?_
                refine r_topi (fun v63 e63 => ?_)
                refine r_istore_n (loc' := [(2, .int v63), (0, .ref 4), (1, .int (nI op))]) dX1_denial_63 (by decide) rfl ?_
                refine r_aload_n dX1_denial_64 rfl ?_
                refine r_callV0 dX1_denial_65 lk_X1_38 (ly_4 hE) rfl (Nat.le_of_ble_eq_true rfl) (sp_advance hE hz hf k1.1.1 k1.1.2.1 k1.1.2.2.1 (fun A2 f2 t2 => ?_))
                have hs2 := k1.adv f2 t2
                refine r_aload_n dX1_denial_68 rfl ?_
                refine r_iconst (v := 2) dX1_denial_69 rfl ?_
                refine r_iload_n dX1_denial_70 rfl ?_
                refine r_callV2 dX1_denial_71 lk_X1_45 (ly_4 hE) rfl (Nat.le_of_ble_eq_true rfl) (hI2 A2 L _ hs2 (fun A3 f3 q3 => ?_))
                have c3 : CS A3 f z T j2 (out ++ c1 ++ c2) := q3
                refine r_aload_n dX1_denial_74 rfl ?_
                refine r_getR dX1_denial_75 fl_X1_15 (ly_4 hE) rfl ?_
                refine r_iload_n dX1_denial_78 rfl ?_
                refine r_callS1 dX1_denial_79 lk_X1_68 (Nat.le_of_ble_eq_true rfl) (sp_stepOf (by rw [e63]; exact hdt) ?_)
                refine r_callV1 dX1_denial_82 lk_X1_72 (ly_3 hE) rfl (Nat.le_of_ble_eq_true rfl) (add_c (y := dO (tk f z j1)) hE hT c3 (by omega) (by rw [e63]) (fun A4 f4 c4 => ?_))
                refine r_return dX1_denial_85 rfl ?_
                refine hk A4 (((f1.tr (f2.cf (by decide))).tr f3).tr f4) ?_
                show CS A4 f z T j2 (out ++ (c1 ++ (c2 ++ [dO (tk f z j1)])))
                rw [show out ++ (c1 ++ (c2 ++ [dO (tk f z j1)])) = out ++ c1 ++ c2 ++ [dO (tk f z j1)] by simp]
                exact c4
          · refine qC.enter (by decide) (Nat.le_of_ble_eq_true rfl) ?_
            refine r_aload_n dX1_denial_0 rfl ?_
            refine r_getI dX1_denial_1 fl_X1_52 (ly_4 hE) rfl ?_
            refine r_rw (y := tk f z i) hs.1.2.2.2.2.1 ?_
            refine r_bipush (v := 11) dX1_denial_4 rfl ?_
            refine r_icmp_ne (tgt := 35) dX1_denial_6 (by decide) (fun _ => ?_) (fun hqz => absurd hqz h11)
            refine r_aload_n dX1_denial_35 rfl ?_
            refine r_iconst (v := 2) dX1_denial_36 rfl ?_
            refine r_iload_n dX1_denial_37 rfl ?_
            refine r_callV2 dX1_denial_38 lk_X1_45 (ly_4 hE) rfl (Nat.le_of_ble_eq_true rfl) (hI A L _ hs (fun A1 f1 q1 => ?_))
            have k1 : CS A1 f z T j1 (out ++ c1) := q1
            refine r_aload_n dX1_denial_41 rfl ?_
            refine r_getI dX1_denial_42 fl_X1_52 (ly_4 hE) rfl ?_
            refine r_rw (y := tk f z j1) k1.1.2.2.2.2.1 ?_
            refine r_bipush (v := 60) dX1_denial_45 rfl ?_
            refine r_icmp_eq (tgt := 59) dX1_denial_47 (by decide) (fun b47 => ?_) (fun b47 => ?_)
            · refine r_aload_n dX1_denial_59 rfl ?_
              refine r_getI dX1_denial_60 fl_X1_52 (ly_4 hE) rfl ?_
              refine r_rw (y := tk f z j1) k1.1.2.2.2.2.1 ?_
              refine r_topi (fun v63 e63 => ?_)
              refine r_istore_n (loc' := [(2, .int v63), (0, .ref 4), (1, .int (nI op))]) dX1_denial_63 (by decide) rfl ?_
              refine r_aload_n dX1_denial_64 rfl ?_
              refine r_callV0 dX1_denial_65 lk_X1_38 (ly_4 hE) rfl (Nat.le_of_ble_eq_true rfl) (sp_advance hE hz hf k1.1.1 k1.1.2.1 k1.1.2.2.1 (fun A2 f2 t2 => ?_))
              have hs2 := k1.adv f2 t2
              refine r_aload_n dX1_denial_68 rfl ?_
              refine r_iconst (v := 2) dX1_denial_69 rfl ?_
              refine r_iload_n dX1_denial_70 rfl ?_
              refine r_callV2 dX1_denial_71 lk_X1_45 (ly_4 hE) rfl (Nat.le_of_ble_eq_true rfl) (hI2 A2 L _ hs2 (fun A3 f3 q3 => ?_))
              have c3 : CS A3 f z T j2 (out ++ c1 ++ c2) := q3
              refine r_aload_n dX1_denial_74 rfl ?_
              refine r_getR dX1_denial_75 fl_X1_15 (ly_4 hE) rfl ?_
              refine r_iload_n dX1_denial_78 rfl ?_
              refine r_callS1 dX1_denial_79 lk_X1_68 (Nat.le_of_ble_eq_true rfl) (sp_stepOf (by rw [e63]; exact hdt) ?_)
              refine r_callV1 dX1_denial_82 lk_X1_72 (ly_3 hE) rfl (Nat.le_of_ble_eq_true rfl) (add_c (y := dO (tk f z j1)) hE hT c3 (by omega) (by rw [e63]) (fun A4 f4 c4 => ?_))
              refine r_return dX1_denial_85 rfl ?_
              refine hk A4 (((f1.tr (f2.cf (by decide))).tr f3).tr f4) ?_
              show CS A4 f z T j2 (out ++ (c1 ++ (c2 ++ [dO (tk f z j1)])))
              rw [show out ++ (c1 ++ (c2 ++ [dO (tk f z j1)])) = out ++ c1 ++ c2 ++ [dO (tk f z j1)] by simp]
              exact c4
            · refine r_aload_n dX1_denial_50 rfl ?_
              refine r_getI dX1_denial_51 fl_X1_52 (ly_4 hE) rfl ?_
              refine r_rw (y := tk f z j1) k1.1.2.2.2.2.1 ?_
              refine r_bipush (v := 61) dX1_denial_54 rfl ?_
              refine r_icmp_ne (tgt := 85) dX1_denial_56 (by decide) (fun b56 => ?_) (fun b56 => ?_)
              · exact absurd hc (fun y => y.elim b47 b56)
              · refine r_aload_n dX1_denial_59 rfl ?_
                refine r_getI dX1_denial_60 fl_X1_52 (ly_4 hE) rfl ?_
                refine r_rw (y := tk f z j1) k1.1.2.2.2.2.1 ?_
                refine r_topi (fun v63 e63 => ?_)
                refine r_istore_n (loc' := [(2, .int v63), (0, .ref 4), (1, .int (nI op))]) dX1_denial_63 (by decide) rfl ?_
                refine r_aload_n dX1_denial_64 rfl ?_
                refine r_callV0 dX1_denial_65 lk_X1_38 (ly_4 hE) rfl (Nat.le_of_ble_eq_true rfl) (sp_advance hE hz hf k1.1.1 k1.1.2.1 k1.1.2.2.1 (fun A2 f2 t2 => ?_))
                have hs2 := k1.adv f2 t2
                refine r_aload_n dX1_denial_68 rfl ?_
                refine r_iconst (v := 2) dX1_denial_69 rfl ?_
                refine r_iload_n dX1_denial_70 rfl ?_
                refine r_callV2 dX1_denial_71 lk_X1_45 (ly_4 hE) rfl (Nat.le_of_ble_eq_true rfl) (hI2 A2 L _ hs2 (fun A3 f3 q3 => ?_))
                have c3 : CS A3 f z T j2 (out ++ c1 ++ c2) := q3
                refine r_aload_n dX1_denial_74 rfl ?_
                refine r_getR dX1_denial_75 fl_X1_15 (ly_4 hE) rfl ?_
                refine r_iload_n dX1_denial_78 rfl ?_
                refine r_callS1 dX1_denial_79 lk_X1_68 (Nat.le_of_ble_eq_true rfl) (sp_stepOf (by rw [e63]; exact hdt) ?_)
                refine r_callV1 dX1_denial_82 lk_X1_72 (ly_3 hE) rfl (Nat.le_of_ble_eq_true rfl) (add_c (y := dO (tk f z j1)) hE hT c3 (by omega) (by rw [e63]) (fun A4 f4 c4 => ?_))
                refine r_return dX1_denial_85 rfl ?_
                refine hk A4 (((f1.tr (f2.cf (by decide))).tr f3).tr f4) ?_
                show CS A4 f z T j2 (out ++ (c1 ++ (c2 ++ [dO (tk f z j1)])))
                rw [show out ++ (c1 ++ (c2 ++ [dO (tk f z j1)])) = out ++ c1 ++ c2 ++ [dO (tk f z j1)] by simp]
                exact c4
      · rw [pz_d1 ht e1 hc] at hk
        by_cases h11 : tk f z i = 11
        · have hop5 : ¬ op < 5 := fun y => ht ⟨h11, y⟩
          refine qC.enter (by decide) (Nat.le_of_ble_eq_true rfl) ?_
          refine r_aload_n dX1_denial_0 rfl ?_
          refine r_getI dX1_denial_1 fl_X1_52 (ly_4 hE) rfl ?_
          refine r_rw (y := tk f z i) hs.1.2.2.2.2.1 ?_
          refine r_bipush (v := 11) dX1_denial_4 rfl ?_
          refine r_icmp_ne (tgt := 35) dX1_denial_6 (by decide) (fun hqz => absurd h11 hqz) (fun _ => ?_)
          refine r_iload_n dX1_denial_9 rfl ?_
          refine r_iconst (v := 5) dX1_denial_10 rfl ?_
          refine r_icmp_ge (tgt := 35) dX1_denial_11 (by decide) (fun _ => ?_) (fun hqz => absurd (nI_le (a := 5) (by omega) (by omega)) hqz)
          refine r_aload_n dX1_denial_35 rfl ?_
          refine r_iconst (v := 2) dX1_denial_36 rfl ?_
          refine r_iload_n dX1_denial_37 rfl ?_
          refine r_callV2 dX1_denial_38 lk_X1_45 (ly_4 hE) rfl (Nat.le_of_ble_eq_true rfl) (hI A L _ hs (fun A1 f1 q1 => ?_))
          have k1 : CS A1 f z T j1 (out ++ c1) := q1
          refine r_aload_n dX1_denial_41 rfl ?_
          refine r_getI dX1_denial_42 fl_X1_52 (ly_4 hE) rfl ?_
          refine r_rw (y := tk f z j1) k1.1.2.2.2.2.1 ?_
          refine r_bipush (v := 60) dX1_denial_45 rfl ?_
          refine r_icmp_eq (tgt := 59) dX1_denial_47 (by decide) (fun hqz => absurd hqz (fun y => hc (Or.inl y))) (fun _ => ?_)
          refine r_aload_n dX1_denial_50 rfl ?_
          refine r_getI dX1_denial_51 fl_X1_52 (ly_4 hE) rfl ?_
          refine r_rw (y := tk f z j1) k1.1.2.2.2.2.1 ?_
          refine r_bipush (v := 61) dX1_denial_54 rfl ?_
          refine r_icmp_ne (tgt := 85) dX1_denial_56 (by decide) (fun _ => ?_) (fun hqz => absurd hqz (fun y => hc (Or.inr y)))
          refine r_return dX1_denial_85 rfl ?_
          exact hk A1 f1 k1
        · refine qC.enter (by decide) (Nat.le_of_ble_eq_true rfl) ?_
          refine r_aload_n dX1_denial_0 rfl ?_
          refine r_getI dX1_denial_1 fl_X1_52 (ly_4 hE) rfl ?_
          refine r_rw (y := tk f z i) hs.1.2.2.2.2.1 ?_
          refine r_bipush (v := 11) dX1_denial_4 rfl ?_
          refine r_icmp_ne (tgt := 35) dX1_denial_6 (by decide) (fun _ => ?_) (fun hqz => absurd hqz h11)
          refine r_aload_n dX1_denial_35 rfl ?_
          refine r_iconst (v := 2) dX1_denial_36 rfl ?_
          refine r_iload_n dX1_denial_37 rfl ?_
          refine r_callV2 dX1_denial_38 lk_X1_45 (ly_4 hE) rfl (Nat.le_of_ble_eq_true rfl) (hI A L _ hs (fun A1 f1 q1 => ?_))
          have k1 : CS A1 f z T j1 (out ++ c1) := q1
          refine r_aload_n dX1_denial_41 rfl ?_
          refine r_getI dX1_denial_42 fl_X1_52 (ly_4 hE) rfl ?_
          refine r_rw (y := tk f z j1) k1.1.2.2.2.2.1 ?_
          refine r_bipush (v := 60) dX1_denial_45 rfl ?_
          refine r_icmp_eq (tgt := 59) dX1_denial_47 (by decide) (fun hqz => absurd hqz (fun y => hc (Or.inl y))) (fun _ => ?_)
          refine r_aload_n dX1_denial_50 rfl ?_
          refine r_getI dX1_denial_51 fl_X1_52 (ly_4 hE) rfl ?_
          refine r_rw (y := tk f z j1) k1.1.2.2.2.2.1 ?_
          refine r_bipush (v := 61) dX1_denial_54 rfl ?_
          refine r_icmp_ne (tgt := 85) dX1_denial_56 (by decide) (fun _ => ?_) (fun hqz => absurd hqz (fun y => hc (Or.inr y)))
          refine r_return dX1_denial_85 rfl ?_
          exact hk A1 f1 k1
set_option maxRecDepth 100000 in
set_option maxHeartbeats 1000000 in
theorem hone (hE : hC E) (hz : z ≤ 160) (hf : ∀ j, j < z → ∃ b, b < 256 ∧ f j = nI b) (hT : T < 6) {F : Nat} (hO : HO E f z T F mm_X1_one 5 1 0) (h0 : HC E f z T F mm_X1_chain 0 0 6 9) : HO E f z T (F + 1) mm_X1_one 5 1 0 := by
  intro op i e out hi ho hop hF hd A L Ph hs hk
  obtain ⟨e, rfl⟩ : ∃ e', e = e' + 10 := ⟨e - 10, by omega⟩
  have h160 := (tE_le (f := f) hz i).1
  by_cases h1 : tk f z i = 300
  · have hv := vl_up hz hf hi (by rw [h1]; decide)
    obtain ⟨v, hv1, ev⟩ := am_ok hz hf h1
    rw [pz_o1 h1] at hk
    refine qC.enter (by decide) (Nat.le_of_ble_eq_true rfl) ?_
    refine r_aload_n dX1_one_0 rfl ?_
    refine r_getI dX1_one_1 fl_X1_52 (ly_4 hE) rfl ?_
    refine r_rw (y := tk f z i) hs.1.2.2.2.2.1 ?_
    refine r_sipush (v := 300) dX1_one_4 rfl ?_
    refine r_icmp_ne (tgt := 28) dX1_one_7 (by decide) (fun hqz => absurd h1 hqz) (fun _ => ?_)
    refine r_aload_n dX1_one_10 rfl ?_
    refine r_getR dX1_one_11 fl_X1_15 (ly_4 hE) rfl ?_
    refine r_aload_n dX1_one_14 rfl ?_
    refine r_getI dX1_one_15 fl_X1_81 (ly_4 hE) rfl ?_
    refine r_rw (y := am f z i) (hs.1.2.2.2.2.2 h1) ?_
    refine r_callV1 dX1_one_18 lk_X1_72 (ly_3 hE) rfl (Nat.le_of_ble_eq_true rfl) (add_c (y := am f z i) hE hT hs (by omega) (by rw [ev, enc_num hv1]) (fun A1 f1 c1 => ?_))
    refine r_aload_n dX1_one_21 rfl ?_
    refine r_callV0 dX1_one_22 lk_X1_38 (ly_4 hE) rfl (Nat.le_of_ble_eq_true rfl) (sp_advance hE hz hf c1.1.1 c1.1.2.1 c1.1.2.2.1 (fun A2 f2 t2 => ?_))
    refine r_goto (tgt := 136) dX1_one_25 (by decide) ?_
    refine r_return dX1_one_136 rfl ?_
    exact hk A2 (f1.tr (f2.cf (by decide))) (c1.adv f2 t2)
  · by_cases h2 : 0 ≤ tk f z i ∧ tk f z i < 6
    · have hv := vl_up hz hf hi (fun y => by rw [y] at h2; exact absurd h2.2 (by decide))
      obtain ⟨q, hq, eq⟩ := pk_yes (n := 6) (by decide) (fun y => i_nle h2.1 y) (fun y => i_nle y h2.2)
      rw [pz_o2 h1 h2] at hk
      refine qC.enter (by decide) (Nat.le_of_ble_eq_true rfl) ?_
      refine r_aload_n dX1_one_0 rfl ?_
      refine r_getI dX1_one_1 fl_X1_52 (ly_4 hE) rfl ?_
      refine r_rw (y := tk f z i) hs.1.2.2.2.2.1 ?_
      refine r_sipush (v := 300) dX1_one_4 rfl ?_
      refine r_icmp_ne (tgt := 28) dX1_one_7 (by decide) (fun _ => ?_) (fun hqz => absurd hqz h1)
      refine r_aload_n dX1_one_28 rfl ?_
      refine r_getI dX1_one_29 fl_X1_52 (ly_4 hE) rfl ?_
      refine r_rw (y := tk f z i) hs.1.2.2.2.2.1 ?_
      refine r_bipush (v := 6) dX1_one_32 rfl ?_
      refine r_callN2 dX1_one_34 lk_X1_23 (Nat.le_of_ble_eq_true rfl) (sp_X6_within 6 rfl (by decide) (fun _ _ _ => ?_) (fun y => absurd eq (y q hq)))
      refine r_if_eq (tgt := 60) dX1_one_37 (by decide) (fun hqz => absurd hqz (by decide)) (fun _ => ?_)
      refine r_aload_n dX1_one_40 rfl ?_
      refine r_getR dX1_one_41 fl_X1_15 (ly_4 hE) rfl ?_
      refine r_iconst (v := (-1)) dX1_one_44 rfl ?_
      refine r_aload_n dX1_one_45 rfl ?_
      refine r_getI dX1_one_46 fl_X1_52 (ly_4 hE) rfl ?_
      refine r_rw (y := tk f z i) hs.1.2.2.2.2.1 ?_
      refine r_isub dX1_one_49 ?_
      refine r_callV1 dX1_one_50 lk_X1_72 (ly_3 hE) rfl (Nat.le_of_ble_eq_true rfl) (add_c (y := -10 - tk f z i) hE hT hs (by omega) (by rw [eq]; exact (enc_nm q hq).symm) (fun A1 f1 c1 => ?_))
      refine r_aload_n dX1_one_53 rfl ?_
      refine r_callV0 dX1_one_54 lk_X1_38 (ly_4 hE) rfl (Nat.le_of_ble_eq_true rfl) (sp_advance hE hz hf c1.1.1 c1.1.2.1 c1.1.2.2.1 (fun A2 f2 t2 => ?_))
      refine r_goto (tgt := 136) dX1_one_57 (by decide) ?_
      refine r_return dX1_one_136 rfl ?_
      exact hk A2 (f1.tr (f2.cf (by decide))) (c1.adv f2 t2)
    · by_cases h3 : tk f z i = 45 ∧ op < 5
      · have hv := vl_up hz hf hi (by rw [h3.1]; decide)
        have hI := hO (op + 1) (i + 1) (e + 9) out hv.1 (by omega) (by omega) (by omega) (by omega)
        rcases rs_cases (pz (tk f z) (am f z) F 5 (op + 1) (i + 1)) with ⟨j1, e1⟩ | ⟨j1, c1, e1⟩
        · rw [pz_o3 h1 h2 h3 e1] at hk
          rw [e1] at hI
          refine qC.enter (by decide) (Nat.le_of_ble_eq_true rfl) ?_
          refine r_aload_n dX1_one_0 rfl ?_
          refine r_getI dX1_one_1 fl_X1_52 (ly_4 hE) rfl ?_
          refine r_rw (y := tk f z i) hs.1.2.2.2.2.1 ?_
          refine r_sipush (v := 300) dX1_one_4 rfl ?_
          refine r_icmp_ne (tgt := 28) dX1_one_7 (by decide) (fun _ => ?_) (fun hqz => absurd hqz h1)
          refine r_aload_n dX1_one_28 rfl ?_
          refine r_getI dX1_one_29 fl_X1_52 (ly_4 hE) rfl ?_
          refine r_rw (y := tk f z i) hs.1.2.2.2.2.1 ?_
          refine r_bipush (v := 6) dX1_one_32 rfl ?_
          refine r_callN2 dX1_one_34 lk_X1_23 (Nat.le_of_ble_eq_true rfl) (win_f 6 rfl (by decide) (fun q hq y => h2 (by rw [y]; exact ⟨nI_le (a := 0) (Nat.zero_le q) (by omega), nI_lt (b := 6) hq (by decide)⟩)) ?_)
          refine r_if_eq (tgt := 60) dX1_one_37 (by decide) (fun _ => ?_) (fun hqz => absurd (by decide) hqz)
          refine r_aload_n dX1_one_60 rfl ?_
          refine r_getI dX1_one_61 fl_X1_52 (ly_4 hE) rfl ?_
          refine r_rw (y := tk f z i) hs.1.2.2.2.2.1 ?_
          refine r_bipush (v := 45) dX1_one_64 rfl ?_
          refine r_icmp_ne (tgt := 97) dX1_one_66 (by decide) (fun hqz => absurd h3.1 hqz) (fun _ => ?_)
          refine r_iload_n dX1_one_69 rfl ?_
          refine r_iconst (v := 5) dX1_one_70 rfl ?_
          refine r_icmp_ge (tgt := 97) dX1_one_71 (by decide) (fun hqz => absurd hqz (nI_ge h3.2 (by decide))) (fun _ => ?_)
          refine r_aload_n dX1_one_74 rfl ?_
          refine r_callV0 dX1_one_75 lk_X1_38 (ly_4 hE) rfl (Nat.le_of_ble_eq_true rfl) (sp_advance hE hz hf hs.1.1 hs.1.2.1 hs.1.2.2.1 (fun A1 f1 t1 => ?_))
          have hs1 := hs.adv f1 t1
          refine r_aload_n dX1_one_78 rfl ?_
          refine r_iload_n dX1_one_79 rfl ?_
          refine r_iconst (v := 1) dX1_one_80 rfl ?_
          refine r_iadd dX1_one_81 ?_
          refine r_rw (y := nI (op + 1)) (nI_1 op) ?_
          refine r_callV1 dX1_one_82 lk_X1_75 (ly_4 hE) rfl (Nat.le_of_ble_eq_true rfl) (hI A1 L _ hs1 (fun A2 f2 q2 => ?_))
          have c2 : CX A2 f z T j1 := q2
          refine r_aload_n dX1_one_85 rfl ?_
          refine r_getR dX1_one_86 fl_X1_15 (ly_4 hE) rfl ?_
          refine r_bipush (v := (-8)) dX1_one_89 rfl ?_
          refine r_callV1 dX1_one_91 lk_X1_72 (ly_3 hE) rfl (Nat.le_of_ble_eq_true rfl) (add_x hE hT c2 (fun A3 f3 c3 => ?_))
          refine r_goto (tgt := 136) dX1_one_94 (by decide) ?_
          refine r_return dX1_one_136 rfl ?_
          exact hk A3 (((f1.cf (by decide)).tr f2).tr f3) c3
        · rw [pz_o4 h1 h2 h3 e1] at hk
          rw [e1] at hI
          have pv := pzv hz hf (by decide) e1 hv.1
          have hv1 := (tE_le (f := f) hz j1).1
          have hlen : (out ++ c1).length ≤ j1 - 1 := by rw [List.length_append]; omega
          refine qC.enter (by decide) (Nat.le_of_ble_eq_true rfl) ?_
          refine r_aload_n dX1_one_0 rfl ?_
          refine r_getI dX1_one_1 fl_X1_52 (ly_4 hE) rfl ?_
          refine r_rw (y := tk f z i) hs.1.2.2.2.2.1 ?_
          refine r_sipush (v := 300) dX1_one_4 rfl ?_
          refine r_icmp_ne (tgt := 28) dX1_one_7 (by decide) (fun _ => ?_) (fun hqz => absurd hqz h1)
          refine r_aload_n dX1_one_28 rfl ?_
          refine r_getI dX1_one_29 fl_X1_52 (ly_4 hE) rfl ?_
          refine r_rw (y := tk f z i) hs.1.2.2.2.2.1 ?_
          refine r_bipush (v := 6) dX1_one_32 rfl ?_
          refine r_callN2 dX1_one_34 lk_X1_23 (Nat.le_of_ble_eq_true rfl) (win_f 6 rfl (by decide) (fun q hq y => h2 (by rw [y]; exact ⟨nI_le (a := 0) (Nat.zero_le q) (by omega), nI_lt (b := 6) hq (by decide)⟩)) ?_)
          refine r_if_eq (tgt := 60) dX1_one_37 (by decide) (fun _ => ?_) (fun hqz => absurd (by decide) hqz)
          refine r_aload_n dX1_one_60 rfl ?_
          refine r_getI dX1_one_61 fl_X1_52 (ly_4 hE) rfl ?_
          refine r_rw (y := tk f z i) hs.1.2.2.2.2.1 ?_
          refine r_bipush (v := 45) dX1_one_64 rfl ?_
          refine r_icmp_ne (tgt := 97) dX1_one_66 (by decide) (fun hqz => absurd h3.1 hqz) (fun _ => ?_)
          refine r_iload_n dX1_one_69 rfl ?_
          refine r_iconst (v := 5) dX1_one_70 rfl ?_
          refine r_icmp_ge (tgt := 97) dX1_one_71 (by decide) (fun hqz => absurd hqz (nI_ge h3.2 (by decide))) (fun _ => ?_)
          refine r_aload_n dX1_one_74 rfl ?_
          refine r_callV0 dX1_one_75 lk_X1_38 (ly_4 hE) rfl (Nat.le_of_ble_eq_true rfl) (sp_advance hE hz hf hs.1.1 hs.1.2.1 hs.1.2.2.1 (fun A1 f1 t1 => ?_))
          have hs1 := hs.adv f1 t1
          refine r_aload_n dX1_one_78 rfl ?_
          refine r_iload_n dX1_one_79 rfl ?_
          refine r_iconst (v := 1) dX1_one_80 rfl ?_
          refine r_iadd dX1_one_81 ?_
          refine r_rw (y := nI (op + 1)) (nI_1 op) ?_
          refine r_callV1 dX1_one_82 lk_X1_75 (ly_4 hE) rfl (Nat.le_of_ble_eq_true rfl) (hI A1 L _ hs1 (fun A2 f2 q2 => ?_))
          have c2 : CS A2 f z T j1 (out ++ c1) := q2
          refine r_aload_n dX1_one_85 rfl ?_
          refine r_getR dX1_one_86 fl_X1_15 (ly_4 hE) rfl ?_
          refine r_bipush (v := (-8)) dX1_one_89 rfl ?_
          refine r_callV1 dX1_one_91 lk_X1_72 (ly_3 hE) rfl (Nat.le_of_ble_eq_true rfl) (add_c (y := -28) hE hT c2 (by omega) (by decide) (fun A3 f3 c3 => ?_))
          refine r_goto (tgt := 136) dX1_one_94 (by decide) ?_
          refine r_return dX1_one_136 rfl ?_
          refine hk A3 (((f1.cf (by decide)).tr f2).tr f3) ?_
          show CS A3 f z T j1 (out ++ (c1 ++ [-28]))
          rw [← List.append_assoc]
          exact c3
      · by_cases h4 : tk f z i = 40 ∧ op < 5
        · have hv := vl_up hz hf hi (by rw [h4.1]; decide)
          have h45 : ¬ tk f z i = 45 := by rw [h4.1]; decide
          have hI := h0 (op + 1) (i + 1) (e + 9) out hv.1 (by omega) (by omega) (by omega) (by omega)
          rcases rs_cases (pz (tk f z) (am f z) F 0 (op + 1) (i + 1)) with ⟨j1, e1⟩ | ⟨j1, c1, e1⟩
          · rw [pz_o5 h1 h2 h3 h4 e1] at hk
            rw [e1] at hI
            refine qC.enter (by decide) (Nat.le_of_ble_eq_true rfl) ?_
            refine r_aload_n dX1_one_0 rfl ?_
            refine r_getI dX1_one_1 fl_X1_52 (ly_4 hE) rfl ?_
            refine r_rw (y := tk f z i) hs.1.2.2.2.2.1 ?_
            refine r_sipush (v := 300) dX1_one_4 rfl ?_
            refine r_icmp_ne (tgt := 28) dX1_one_7 (by decide) (fun _ => ?_) (fun hqz => absurd hqz h1)
            refine r_aload_n dX1_one_28 rfl ?_
            refine r_getI dX1_one_29 fl_X1_52 (ly_4 hE) rfl ?_
            refine r_rw (y := tk f z i) hs.1.2.2.2.2.1 ?_
            refine r_bipush (v := 6) dX1_one_32 rfl ?_
            refine r_callN2 dX1_one_34 lk_X1_23 (Nat.le_of_ble_eq_true rfl) (win_f 6 rfl (by decide) (fun q hq y => h2 (by rw [y]; exact ⟨nI_le (a := 0) (Nat.zero_le q) (by omega), nI_lt (b := 6) hq (by decide)⟩)) ?_)
            refine r_if_eq (tgt := 60) dX1_one_37 (by decide) (fun _ => ?_) (fun hqz => absurd (by decide) hqz)
            refine r_aload_n dX1_one_60 rfl ?_
            refine r_getI dX1_one_61 fl_X1_52 (ly_4 hE) rfl ?_
            refine r_rw (y := tk f z i) hs.1.2.2.2.2.1 ?_
            refine r_bipush (v := 45) dX1_one_64 rfl ?_
            refine r_icmp_ne (tgt := 97) dX1_one_66 (by decide) (fun _ => ?_) (fun hqz => absurd hqz h45)
            refine r_aload_n dX1_one_97 rfl ?_
            refine r_getI dX1_one_98 fl_X1_52 (ly_4 hE) rfl ?_
            refine r_rw (y := tk f z i) hs.1.2.2.2.2.1 ?_
            refine r_bipush (v := 40) dX1_one_101 rfl ?_
            refine r_icmp_ne (tgt := 132) dX1_one_103 (by decide) (fun hqz => absurd h4.1 hqz) (fun _ => ?_)
            refine r_iload_n dX1_one_106 rfl ?_
            refine r_iconst (v := 5) dX1_one_107 rfl ?_
            refine r_icmp_ge (tgt := 132) dX1_one_108 (by decide) (fun hqz => absurd hqz (nI_ge h4.2 (by decide))) (fun _ => ?_)
            refine r_aload_n dX1_one_111 rfl ?_
            refine r_callV0 dX1_one_112 lk_X1_38 (ly_4 hE) rfl (Nat.le_of_ble_eq_true rfl) (sp_advance hE hz hf hs.1.1 hs.1.2.1 hs.1.2.2.1 (fun A1 f1 t1 => ?_))
            have hs1 := hs.adv f1 t1
            refine r_aload_n dX1_one_115 rfl ?_
            refine r_iconst (v := 0) dX1_one_116 rfl ?_
            refine r_iload_n dX1_one_117 rfl ?_
            refine r_iconst (v := 1) dX1_one_118 rfl ?_
            refine r_iadd dX1_one_119 ?_
            refine r_rw (y := nI (op + 1)) (nI_1 op) ?_
            refine r_callV2 dX1_one_120 lk_X1_45 (ly_4 hE) rfl (Nat.le_of_ble_eq_true rfl) (hI A1 L _ hs1 (fun A2 f2 q2 => ?_))
            have c2 : CX A2 f z T j1 := q2
            refine r_aload_n dX1_one_123 rfl ?_
            refine r_bipush (v := 41) dX1_one_124 rfl ?_
            refine r_callV1 dX1_one_126 lk_X1_41 (ly_4 hE) rfl (Nat.le_of_ble_eq_true rfl) (need_x hE hz c2 (by decide) (fun A3 f3 c3 => ?_))
            refine r_goto (tgt := 136) dX1_one_129 (by decide) ?_
            refine r_return dX1_one_136 rfl ?_
            exact hk A3 (((f1.cf (by decide)).tr f2).tr f3) c3
          · rw [e1] at hI
            have pv := pzv hz hf (by decide) e1 hv.1
            have hv1 := (tE_le (f := f) hz j1).1
            have hlen : (out ++ c1).length ≤ j1 := by rw [List.length_append]; omega
            by_cases h5 : tk f z j1 = 41
            · rw [pz_o7 h1 h2 h3 h4 e1 h5] at hk
              refine qC.enter (by decide) (Nat.le_of_ble_eq_true rfl) ?_
              refine r_aload_n dX1_one_0 rfl ?_
              refine r_getI dX1_one_1 fl_X1_52 (ly_4 hE) rfl ?_
              refine r_rw (y := tk f z i) hs.1.2.2.2.2.1 ?_
              refine r_sipush (v := 300) dX1_one_4 rfl ?_
              refine r_icmp_ne (tgt := 28) dX1_one_7 (by decide) (fun _ => ?_) (fun hqz => absurd hqz h1)
              refine r_aload_n dX1_one_28 rfl ?_
              refine r_getI dX1_one_29 fl_X1_52 (ly_4 hE) rfl ?_
              refine r_rw (y := tk f z i) hs.1.2.2.2.2.1 ?_
              refine r_bipush (v := 6) dX1_one_32 rfl ?_
              refine r_callN2 dX1_one_34 lk_X1_23 (Nat.le_of_ble_eq_true rfl) (win_f 6 rfl (by decide) (fun q hq y => h2 (by rw [y]; exact ⟨nI_le (a := 0) (Nat.zero_le q) (by omega), nI_lt (b := 6) hq (by decide)⟩)) ?_)
              refine r_if_eq (tgt := 60) dX1_one_37 (by decide) (fun _ => ?_) (fun hqz => absurd (by decide) hqz)
              refine r_aload_n dX1_one_60 rfl ?_
              refine r_getI dX1_one_61 fl_X1_52 (ly_4 hE) rfl ?_
              refine r_rw (y := tk f z i) hs.1.2.2.2.2.1 ?_
              refine r_bipush (v := 45) dX1_one_64 rfl ?_
              refine r_icmp_ne (tgt := 97) dX1_one_66 (by decide) (fun _ => ?_) (fun hqz => absurd hqz h45)
              refine r_aload_n dX1_one_97 rfl ?_
              refine r_getI dX1_one_98 fl_X1_52 (ly_4 hE) rfl ?_
              refine r_rw (y := tk f z i) hs.1.2.2.2.2.1 ?_
              refine r_bipush (v := 40) dX1_one_101 rfl ?_
              refine r_icmp_ne (tgt := 132) dX1_one_103 (by decide) (fun hqz => absurd h4.1 hqz) (fun _ => ?_)
              refine r_iload_n dX1_one_106 rfl ?_
              refine r_iconst (v := 5) dX1_one_107 rfl ?_
              refine r_icmp_ge (tgt := 132) dX1_one_108 (by decide) (fun hqz => absurd hqz (nI_ge h4.2 (by decide))) (fun _ => ?_)
              refine r_aload_n dX1_one_111 rfl ?_
              refine r_callV0 dX1_one_112 lk_X1_38 (ly_4 hE) rfl (Nat.le_of_ble_eq_true rfl) (sp_advance hE hz hf hs.1.1 hs.1.2.1 hs.1.2.2.1 (fun A1 f1 t1 => ?_))
              have hs1 := hs.adv f1 t1
              refine r_aload_n dX1_one_115 rfl ?_
              refine r_iconst (v := 0) dX1_one_116 rfl ?_
              refine r_iload_n dX1_one_117 rfl ?_
              refine r_iconst (v := 1) dX1_one_118 rfl ?_
              refine r_iadd dX1_one_119 ?_
              refine r_rw (y := nI (op + 1)) (nI_1 op) ?_
              refine r_callV2 dX1_one_120 lk_X1_45 (ly_4 hE) rfl (Nat.le_of_ble_eq_true rfl) (hI A1 L _ hs1 (fun A2 f2 q2 => ?_))
              have c2 : CS A2 f z T j1 (out ++ c1) := q2
              refine r_aload_n dX1_one_123 rfl ?_
              refine r_bipush (v := 41) dX1_one_124 rfl ?_
              refine r_callV1 dX1_one_126 lk_X1_41 (ly_4 hE) rfl (Nat.le_of_ble_eq_true rfl) (need_c hE hz hf c2 h5 (fun A3 f3 c3 => ?_))
              refine r_goto (tgt := 136) dX1_one_129 (by decide) ?_
              refine r_return dX1_one_136 rfl ?_
              exact hk A3 (((f1.cf (by decide)).tr f2).tr f3) c3
            · rw [pz_o6 h1 h2 h3 h4 e1 h5] at hk
              refine qC.enter (by decide) (Nat.le_of_ble_eq_true rfl) ?_
              refine r_aload_n dX1_one_0 rfl ?_
              refine r_getI dX1_one_1 fl_X1_52 (ly_4 hE) rfl ?_
              refine r_rw (y := tk f z i) hs.1.2.2.2.2.1 ?_
              refine r_sipush (v := 300) dX1_one_4 rfl ?_
              refine r_icmp_ne (tgt := 28) dX1_one_7 (by decide) (fun _ => ?_) (fun hqz => absurd hqz h1)
              refine r_aload_n dX1_one_28 rfl ?_
              refine r_getI dX1_one_29 fl_X1_52 (ly_4 hE) rfl ?_
              refine r_rw (y := tk f z i) hs.1.2.2.2.2.1 ?_
              refine r_bipush (v := 6) dX1_one_32 rfl ?_
              refine r_callN2 dX1_one_34 lk_X1_23 (Nat.le_of_ble_eq_true rfl) (win_f 6 rfl (by decide) (fun q hq y => h2 (by rw [y]; exact ⟨nI_le (a := 0) (Nat.zero_le q) (by omega), nI_lt (b := 6) hq (by decide)⟩)) ?_)
              refine r_if_eq (tgt := 60) dX1_one_37 (by decide) (fun _ => ?_) (fun hqz => absurd (by decide) hqz)
              refine r_aload_n dX1_one_60 rfl ?_
              refine r_getI dX1_one_61 fl_X1_52 (ly_4 hE) rfl ?_
              refine r_rw (y := tk f z i) hs.1.2.2.2.2.1 ?_
              refine r_bipush (v := 45) dX1_one_64 rfl ?_
              refine r_icmp_ne (tgt := 97) dX1_one_66 (by decide) (fun _ => ?_) (fun hqz => absurd hqz h45)
              refine r_aload_n dX1_one_97 rfl ?_
              refine r_getI dX1_one_98 fl_X1_52 (ly_4 hE) rfl ?_
              refine r_rw (y := tk f z i) hs.1.2.2.2.2.1 ?_
              refine r_bipush (v := 40) dX1_one_101 rfl ?_
              refine r_icmp_ne (tgt := 132) dX1_one_103 (by decide) (fun hqz => absurd h4.1 hqz) (fun _ => ?_)
              refine r_iload_n dX1_one_106 rfl ?_
              refine r_iconst (v := 5) dX1_one_107 rfl ?_
              refine r_icmp_ge (tgt := 132) dX1_one_108 (by decide) (fun hqz => absurd hqz (nI_ge h4.2 (by decide))) (fun _ => ?_)
              refine r_aload_n dX1_one_111 rfl ?_
              refine r_callV0 dX1_one_112 lk_X1_38 (ly_4 hE) rfl (Nat.le_of_ble_eq_true rfl) (sp_advance hE hz hf hs.1.1 hs.1.2.1 hs.1.2.2.1 (fun A1 f1 t1 => ?_))
              have hs1 := hs.adv f1 t1
              refine r_aload_n dX1_one_115 rfl ?_
              refine r_iconst (v := 0) dX1_one_116 rfl ?_
              refine r_iload_n dX1_one_117 rfl ?_
              refine r_iconst (v := 1) dX1_one_118 rfl ?_
              refine r_iadd dX1_one_119 ?_
              refine r_rw (y := nI (op + 1)) (nI_1 op) ?_
              refine r_callV2 dX1_one_120 lk_X1_45 (ly_4 hE) rfl (Nat.le_of_ble_eq_true rfl) (hI A1 L _ hs1 (fun A2 f2 q2 => ?_))
              have c2 : CS A2 f z T j1 (out ++ c1) := q2
              refine r_aload_n dX1_one_123 rfl ?_
              refine r_bipush (v := 41) dX1_one_124 rfl ?_
              refine r_callV1 dX1_one_126 lk_X1_41 (ly_4 hE) rfl (Nat.le_of_ble_eq_true rfl) (need_n hE c2 (by omega) h5 (fun A3 f3 c3 => ?_))
              refine r_goto (tgt := 136) dX1_one_129 (by decide) ?_
              refine r_return dX1_one_136 rfl ?_
              exact hk A3 (((f1.cf (by decide)).tr f2).tr f3) c3
        · rw [pz_o8 h1 h2 h3 h4] at hk
          refine qC.enter (by decide) (Nat.le_of_ble_eq_true rfl) ?_
          refine r_aload_n dX1_one_0 rfl ?_
          refine r_getI dX1_one_1 fl_X1_52 (ly_4 hE) rfl ?_
          refine r_rw (y := tk f z i) hs.1.2.2.2.2.1 ?_
          refine r_sipush (v := 300) dX1_one_4 rfl ?_
          refine r_icmp_ne (tgt := 28) dX1_one_7 (by decide) (fun _ => ?_) (fun hqz => absurd hqz h1)
          refine r_aload_n dX1_one_28 rfl ?_
          refine r_getI dX1_one_29 fl_X1_52 (ly_4 hE) rfl ?_
          refine r_rw (y := tk f z i) hs.1.2.2.2.2.1 ?_
          refine r_bipush (v := 6) dX1_one_32 rfl ?_
          refine r_callN2 dX1_one_34 lk_X1_23 (Nat.le_of_ble_eq_true rfl) (win_f 6 rfl (by decide) (fun q hq y => h2 (by rw [y]; exact ⟨nI_le (a := 0) (Nat.zero_le q) (by omega), nI_lt (b := 6) hq (by decide)⟩)) ?_)
          refine r_if_eq (tgt := 60) dX1_one_37 (by decide) (fun _ => ?_) (fun hqz => absurd (by decide) hqz)
          refine r_aload_n dX1_one_60 rfl ?_
          refine r_getI dX1_one_61 fl_X1_52 (ly_4 hE) rfl ?_
          refine r_rw (y := tk f z i) hs.1.2.2.2.2.1 ?_
          refine r_bipush (v := 45) dX1_one_64 rfl ?_
          refine r_icmp_ne (tgt := 97) dX1_one_66 (by decide) (fun b66 => ?_) (fun b66 => ?_)
          · refine r_aload_n dX1_one_97 rfl ?_
            refine r_getI dX1_one_98 fl_X1_52 (ly_4 hE) rfl ?_
            refine r_rw (y := tk f z i) hs.1.2.2.2.2.1 ?_
            refine r_bipush (v := 40) dX1_one_101 rfl ?_
            refine r_icmp_ne (tgt := 132) dX1_one_103 (by decide) (fun b103 => ?_) (fun b103 => ?_)
            · refine r_aload_n dX1_one_132 rfl ?_
              refine r_callV0 dX1_one_133 lk_X1_55 (ly_4 hE) rfl (Nat.le_of_ble_eq_true rfl) (refuse_c hE hs (by omega) (fun A1 f1 c1 => ?_))
              refine r_return dX1_one_136 rfl ?_
              exact hk A1 f1 c1
            · refine r_iload_n dX1_one_106 rfl ?_
              refine r_iconst (v := 5) dX1_one_107 rfl ?_
              refine r_icmp_ge (tgt := 132) dX1_one_108 (by decide) (fun b108 => ?_) (fun b108 => ?_)
              · refine r_aload_n dX1_one_132 rfl ?_
                refine r_callV0 dX1_one_133 lk_X1_55 (ly_4 hE) rfl (Nat.le_of_ble_eq_true rfl) (refuse_c hE hs (by omega) (fun A1 f1 c1 => ?_))
                refine r_return dX1_one_136 rfl ?_
                exact hk A1 f1 c1
              · exact absurd ⟨b103, nI_glt hop b108⟩ h4
          · refine r_iload_n dX1_one_69 rfl ?_
            refine r_iconst (v := 5) dX1_one_70 rfl ?_
            refine r_icmp_ge (tgt := 97) dX1_one_71 (by decide) (fun b71 => ?_) (fun b71 => ?_)
            · refine r_aload_n dX1_one_97 rfl ?_
              refine r_getI dX1_one_98 fl_X1_52 (ly_4 hE) rfl ?_
              refine r_rw (y := tk f z i) hs.1.2.2.2.2.1 ?_
              refine r_bipush (v := 40) dX1_one_101 rfl ?_
              refine r_icmp_ne (tgt := 132) dX1_one_103 (by decide) (fun b103 => ?_) (fun b103 => ?_)
              · refine r_aload_n dX1_one_132 rfl ?_
                refine r_callV0 dX1_one_133 lk_X1_55 (ly_4 hE) rfl (Nat.le_of_ble_eq_true rfl) (refuse_c hE hs (by omega) (fun A1 f1 c1 => ?_))
                refine r_return dX1_one_136 rfl ?_
                exact hk A1 f1 c1
              · refine r_iload_n dX1_one_106 rfl ?_
                refine r_iconst (v := 5) dX1_one_107 rfl ?_
                refine r_icmp_ge (tgt := 132) dX1_one_108 (by decide) (fun b108 => ?_) (fun b108 => ?_)
                · refine r_aload_n dX1_one_132 rfl ?_
                  refine r_callV0 dX1_one_133 lk_X1_55 (ly_4 hE) rfl (Nat.le_of_ble_eq_true rfl) (refuse_c hE hs (by omega) (fun A1 f1 c1 => ?_))
                  refine r_return dX1_one_136 rfl ?_
                  exact hk A1 f1 c1
                · exact absurd ⟨b103, nI_glt hop b108⟩ h4
            · exact absurd ⟨b66, nI_glt hop b71⟩ h3
theorem par_all (hE : hC E) (hz : z ≤ 160) (hf : ∀ j, j < z → ∃ b, b < 256 ∧ f j = nI b) (hT : T < 6) : ∀ F, HC E f z T F mm_X1_chain 0 0 6 9 ∧ HC E f z T F mm_X1_chain 1 1 5 7 ∧ HC E f z T F mm_X1_chain 2 2 3 4 ∧ HC E f z T F mm_X1_chain 3 3 2 2 ∧ HO E f z T F mm_X1_denial 4 4 5 ∧ HO E f z T F mm_X1_one 5 1 0 := by
  intro F
  induction F using Nat.strongRecOn with
  | _ F ih =>
    refine ⟨hc0 hE hz hf hT (fun F' h => hl0 hE (ih F' h).2.1), hc1 hE hz hf hT (fun F' h => hl1 hE (ih F' h).2.2.2.2.1), hc2 hE hz hf hT (fun F' h => hl2 hE (ih F' h).2.2.2.1), hc3 hE hz hf hT (fun F' h => hl3 hE (ih F' h).2.2.2.2.2), ?_, ?_⟩
    · rcases Nat.eq_zero_or_pos F with q | q
      · subst q
        intro op i e out _ _ _ hF
        omega
      · obtain ⟨F', rfl⟩ : ∃ F', F = F' + 1 := ⟨F - 1, by omega⟩
        exact hden hE hz hf hT (ih F' (by omega)).2.2.1 (ih F' (by omega)).2.2.2.2.1
    · rcases Nat.eq_zero_or_pos F with q | q
      · subst q
        intro op i e out _ _ _ hF
        omega
      · obtain ⟨F', rfl⟩ : ∃ F', F = F' + 1 := ⟨F - 1, by omega⟩
        exact hone hE hz hf hT (ih F' (by omega)).2.2.2.2.2 (ih F' (by omega)).1
end CPAR2
