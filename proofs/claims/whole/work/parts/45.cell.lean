/-! sheet, cell -/
theorem m1_lits : (-1 : Int32).toInt = -1 ∧ (2 : Int32).toInt = 2 ∧ (3 : Int32).toInt = 3 ∧ (40 : Int32).toInt = 40 ∧ (0 : Int32).toInt = 0 := by decide
theorem nI_nlm1 {k : Nat} (h : k < 2 ^ 31) : ¬ nI k < -1 := by
  have e := nI_toInt h
  have e2 := m1_lits.1
  rw [i_lt]
  omega
theorem up40 (x : Int32) : x < 0 ∨ (∃ y, y ≤ 40 ∧ x = nI y) ∨ (40 : Int32) < x := by
  rcases pk_ix x (n := 41) (by decide) with h | h | ⟨j, hj, e⟩
  · exact Or.inl h
  · refine Or.inr (Or.inr ?_)
    have e := nI_toInt (n := 41) (by decide)
    obtain ⟨-, -, -, e4, -⟩ := m1_lits
    rw [i_le, e] at h
    rw [i_lt, e4]
    omega
  · exact Or.inr (Or.inl ⟨j, by omega, e⟩)
section OPS11
variable {E : mE} {d : Nat} {A S : mA} {L : mJ} {Ph : mP} {T n z p r s : Nat}
set_option maxRecDepth 100000 in
set_option maxHeartbeats 4000000 in
theorem op_sheet (hE : hM E) (hW : WfS S T n z) (sv tv yv : Int32) : OpOK E (d + 3) mm_X6_sheet mm_X7_sheet [.int sv, .int tv, .int yv] S T n z := by
  have hEc := hE.c
  have hN := hW.2.2.2.2.1
  have hn := hN.1
  have h60 := hN.2.1
  obtain ⟨l1, l2, l3, l4, l5⟩ := m1_lits
  rcases pk_cases sv 4 with ⟨s, hs, rfl⟩ | hv
  · by_cases t1 : tv = -1
    · subst t1
      refine ⟨.int 1, shS S s (-1) 0, T, n, z, ⟨_, rfl⟩, shS_wf hW (Or.inl rfl) (by decide), fun A L Ph hR hk => ?_, fun A L Ph hR hk => ?_⟩
      · skip
        refine qC.enter (by decide) (Nat.le_of_ble_eq_true rfl) ?_
        refine r_iload_n dX6_sheet_0 rfl ?_
        refine r_iconst (v := 4) dX6_sheet_1 rfl ?_
        refine r_callS2 dX6_sheet_2 lk_X6_100 (Nat.le_of_ble_eq_true rfl) (win_t (lim := 4) rfl (by decide) hs ?_)
        refine r_if_eq (tgt := 18) dX6_sheet_5 (by decide) (fun hqz => absurd hqz (by decide)) (fun _ => ?_)
        refine r_iload_n dX6_sheet_8 rfl ?_
        refine r_iconst (v := (-1)) dX6_sheet_9 rfl ?_
        refine r_icmp_lt (tgt := 18) dX6_sheet_10 (by decide) (fun hqz => absurd hqz (by decide)) (fun _ => ?_)
        refine r_iload_n dX6_sheet_13 rfl ?_
        refine r_iconst (v := 3) dX6_sheet_14 rfl ?_
        refine r_icmp_lt (tgt := 21) dX6_sheet_15 (by decide) (fun _ => ?_) (fun hqz => absurd (by decide) hqz)
        refine r_iload_n dX6_sheet_21 rfl ?_
        refine r_iconst (v := (-1)) dX6_sheet_22 rfl ?_
        refine r_icmp_eq (tgt := 35) dX6_sheet_23 (by decide) (fun _ => ?_) (fun hqz => absurd (by decide) hqz)
        refine r_iload_n dX6_sheet_35 rfl ?_
        refine r_iconst (v := (-1)) dX6_sheet_36 rfl ?_
        refine r_icmp_eq (tgt := 47) dX6_sheet_37 (by decide) (fun _ => ?_) (fun hqz => absurd (by decide) hqz)
        refine r_aload_n dX6_sheet_47 rfl ?_
        refine r_getR dX6_sheet_48 fl_X6_52 (ly_0 hEc) rfl ?_
        refine r_iload_n dX6_sheet_51 rfl ?_
        refine r_aaldN dX6_sheet_52 (ly_7 hEc) (show s < 4 by omega) (by decide) (ly_7r (by omega)) ?_
        refine r_iload_n dX6_sheet_53 rfl ?_
        refine r_iload_n dX6_sheet_54 rfl ?_
        refine r_iconst (v := (-1)) dX6_sheet_55 rfl ?_
        refine r_icmp_ne (tgt := 63) dX6_sheet_56 (by decide) (fun hqz => absurd (by decide) hqz) (fun _ => ?_)
        refine r_iconst (v := 0) dX6_sheet_59 rfl ?_
        refine r_rw (y := nI 0) rfl ?_
        refine r_goto (tgt := 64) dX6_sheet_60 (by decide) ?_
        refine r_callV2 dX6_sheet_64 lk_X6_288 (ly_sh hEc hs) rfl (Nat.le_of_ble_eq_true rfl) (bcm_ok hEc hs (by decide) (fun A1 f1 c1 c2 c3 => ?_))
        refine r_iconst (v := 1) dX6_sheet_67 rfl ?_
        refine r_ireturn dX6_sheet_68 rfl rfl ?_
        exact hk A1 L (shS_rc hs hR f1 c1 c2 c3) (Fr.hi f1 (by simp; omega))
      · obtain ⟨-, -, -, -, -, -, -, -, r53, r54, r55, -⟩ := id hR
        have fr : Fr [53, 54, 55, 56] A (va_up (s2 (s2 A 53 s (-1)) 54 s (nI 0)) 55 (fb_put (A 55) (fun _ => 0) (40 * s) 40)) := (Fr.s2 (by decide)).tr ((Fr.s2 (by decide)).tr (Fr.up (by decide)))
        have K := hk _ L (hR.sh shS_fr fr (by rw [va_up_no (by decide), s2_ne (by decide), s2_eq, shS_53, r53]) (by rw [va_up_no (by decide), s2_eq, s2_ne (by decide), shS_54, r54]) (by rw [va_up_eq, shS_55, r55])) (Fr.lo fr (by decide))
        refine qC.enter (by decide) (Nat.le_of_ble_eq_true rfl) ?_
        refine r_iload_n dX7_sheet_0 rfl ?_
        refine r_callS1 dX7_sheet_1 lk_X7_254 (Nat.le_of_ble_eq_true rfl) (iss_t hE hs ?_)
        refine r_if_eq (tgt := 27) dX7_sheet_4 (by decide) (fun hqz => absurd hqz (by decide)) (fun _ => ?_)
        refine r_iload_n dX7_sheet_7 rfl ?_
        refine r_iconst (v := (-1)) dX7_sheet_8 rfl ?_
        refine r_iconst (v := 2) dX7_sheet_9 rfl ?_
        refine r_callS3 dX7_sheet_10 lk_X7_78 (Nat.le_of_ble_eq_true rfl) (sp_X7_isIn (fun _ _ => ?_) (fun q => absurd q (by decide)))
        refine r_if_eq (tgt := 27) dX7_sheet_13 (by decide) (fun hqz => absurd hqz (by decide)) (fun _ => ?_)
        refine r_iload_n dX7_sheet_16 rfl ?_
        refine r_iconst (v := (-1)) dX7_sheet_17 rfl ?_
        refine r_icmp_eq (tgt := 30) dX7_sheet_18 (by decide) (fun _ => ?_) (fun hqz => absurd (by decide) hqz)
        refine r_iload_n dX7_sheet_30 rfl ?_
        refine r_iconst (v := (-1)) dX7_sheet_31 rfl ?_
        refine r_icmp_eq (tgt := 42) dX7_sheet_32 (by decide) (fun _ => ?_) (fun hqz => absurd (by decide) hqz)
        refine r_aload_n dX7_sheet_42 rfl ?_
        refine r_getR dX7_sheet_43 fl_X7_63 (ly_38 hE) rfl ?_
        refine r_iload_n dX7_sheet_46 rfl ?_
        refine r_iload_n dX7_sheet_47 rfl ?_
        refine r_iastN dX7_sheet_48 (ly_53 hE) (by omega) (by decide) ?_
        refine r_aload_n dX7_sheet_49 rfl ?_
        refine r_getR dX7_sheet_50 fl_X7_66 (ly_38 hE) rfl ?_
        refine r_iload_n dX7_sheet_53 rfl ?_
        refine r_iload_n dX7_sheet_54 rfl ?_
        refine r_iconst (v := (-1)) dX7_sheet_55 rfl ?_
        refine r_icmp_ne (tgt := 63) dX7_sheet_56 (by decide) (fun hqz => absurd (by decide) hqz) (fun _ => ?_)
        refine r_iconst (v := 0) dX7_sheet_59 rfl ?_
        refine r_rw (y := nI 0) rfl ?_
        refine r_goto (tgt := 64) dX7_sheet_60 (by decide) ?_
        refine r_iastN dX7_sheet_64 (ly_54 hE) (by omega) (by decide) ?_
        refine r_iconst (v := 0) dX7_sheet_65 rfl ?_
        refine r_istore (loc' := [(4, .int 0), (0, .ref 38), (1, .int (nI s)), (2, .int (-1)), (3, .int yv)]) dX7_sheet_66 (by decide) rfl ?_
        have J := zero_loop (d := d + 3) (A := s2 (s2 A 53 s (-1)) 54 s (nI 0)) (L := L) (Ph := Ph) (t := (-1)) (u := yv) hE hs K 40 0 rfl
        rw [fb_put_0, up_self] at J
        exact J
    · rcases pk_cases tv 3 with ⟨t, ht, rfl⟩ | tb
      · rcases up40 yv with y0 | ⟨y, hy, rfl⟩ | y40
        · refine ⟨.int (-14), S, T, n, z, ⟨_, rfl⟩, hW, fun A L Ph hR hk => ?_, fun A L Ph hR hk => ?_⟩
          · have K := hk A L hR (fun _ _ => rfl)
            refine qC.enter (by decide) (Nat.le_of_ble_eq_true rfl) ?_
            refine r_iload_n dX6_sheet_0 rfl ?_
            refine r_iconst (v := 4) dX6_sheet_1 rfl ?_
            refine r_callS2 dX6_sheet_2 lk_X6_100 (Nat.le_of_ble_eq_true rfl) (win_t (lim := 4) rfl (by decide) hs ?_)
            refine r_if_eq (tgt := 18) dX6_sheet_5 (by decide) (fun hqz => absurd hqz (by decide)) (fun _ => ?_)
            refine r_iload_n dX6_sheet_8 rfl ?_
            refine r_iconst (v := (-1)) dX6_sheet_9 rfl ?_
            refine r_icmp_lt (tgt := 18) dX6_sheet_10 (by decide) (fun hqz => absurd hqz (nI_nlm1 (by omega))) (fun _ => ?_)
            refine r_iload_n dX6_sheet_13 rfl ?_
            refine r_iconst (v := 3) dX6_sheet_14 rfl ?_
            refine r_icmp_lt (tgt := 21) dX6_sheet_15 (by decide) (fun _ => ?_) (fun hqz => absurd (nI_lt ht (by decide)) hqz)
            refine r_iload_n dX6_sheet_21 rfl ?_
            refine r_iconst (v := (-1)) dX6_sheet_22 rfl ?_
            refine r_icmp_eq (tgt := 35) dX6_sheet_23 (by decide) (fun hqz => absurd hqz t1) (fun _ => ?_)
            refine r_iload_n dX6_sheet_26 rfl ?_
            refine r_bipush (v := 40) dX6_sheet_27 rfl ?_
            refine r_icmp_le (tgt := 35) dX6_sheet_29 (by decide) (fun _ => ?_) (fun hqz => absurd (by rw [i_le, l4]; rw [i_lt, l5] at y0; omega) hqz)
            refine r_iload_n dX6_sheet_35 rfl ?_
            refine r_iconst (v := (-1)) dX6_sheet_36 rfl ?_
            refine r_icmp_eq (tgt := 47) dX6_sheet_37 (by decide) (fun hqz => absurd hqz t1) (fun _ => ?_)
            refine r_iload_n dX6_sheet_40 rfl ?_
            refine r_if_ge (tgt := 47) dX6_sheet_41 (by decide) (fun hqz => absurd hqz (by rw [i_le, l5]; rw [i_lt, l5] at y0; omega)) (fun _ => ?_)
            refine r_bipush (v := (-14)) dX6_sheet_44 rfl ?_
            refine r_ireturn dX6_sheet_46 rfl rfl ?_
            exact K
          · have K := hk A L hR (fun _ _ => rfl)
            refine qC.enter (by decide) (Nat.le_of_ble_eq_true rfl) ?_
            refine r_iload_n dX7_sheet_0 rfl ?_
            refine r_callS1 dX7_sheet_1 lk_X7_254 (Nat.le_of_ble_eq_true rfl) (iss_t hE hs ?_)
            refine r_if_eq (tgt := 27) dX7_sheet_4 (by decide) (fun hqz => absurd hqz (by decide)) (fun _ => ?_)
            refine r_iload_n dX7_sheet_7 rfl ?_
            refine r_iconst (v := (-1)) dX7_sheet_8 rfl ?_
            refine r_iconst (v := 2) dX7_sheet_9 rfl ?_
            refine r_callS3 dX7_sheet_10 lk_X7_78 (Nat.le_of_ble_eq_true rfl) (sp_X7_isIn (fun _ _ => ?_) (fun q => absurd q (by have := nI_toInt (n := t) (by omega); rw [i_lt, i_lt, l1, l2, this]; omega)))
            refine r_if_eq (tgt := 27) dX7_sheet_13 (by decide) (fun hqz => absurd hqz (by decide)) (fun _ => ?_)
            refine r_iload_n dX7_sheet_16 rfl ?_
            refine r_iconst (v := (-1)) dX7_sheet_17 rfl ?_
            refine r_icmp_eq (tgt := 30) dX7_sheet_18 (by decide) (fun hqz => absurd hqz t1) (fun _ => ?_)
            refine r_iload_n dX7_sheet_21 rfl ?_
            refine r_bipush (v := 40) dX7_sheet_22 rfl ?_
            refine r_icmp_le (tgt := 30) dX7_sheet_24 (by decide) (fun _ => ?_) (fun hqz => absurd (by rw [i_le, l4]; rw [i_lt, l5] at y0; omega) hqz)
            refine r_iload_n dX7_sheet_30 rfl ?_
            refine r_iconst (v := (-1)) dX7_sheet_31 rfl ?_
            refine r_icmp_eq (tgt := 42) dX7_sheet_32 (by decide) (fun hqz => absurd hqz t1) (fun _ => ?_)
            refine r_iload_n dX7_sheet_35 rfl ?_
            refine r_if_ge (tgt := 42) dX7_sheet_36 (by decide) (fun hqz => absurd hqz (by rw [i_le, l5]; rw [i_lt, l5] at y0; omega)) (fun _ => ?_)
            refine r_bipush (v := (-14)) dX7_sheet_39 rfl ?_
            refine r_ireturn dX7_sheet_41 rfl rfl ?_
            exact K
        · refine ⟨.int 1, shS S s (nI t) y, T, n, z, ⟨_, rfl⟩, shS_wf hW (Or.inr ⟨t, ht, rfl⟩) hy, fun A L Ph hR hk => ?_, fun A L Ph hR hk => ?_⟩
          · skip
            refine qC.enter (by decide) (Nat.le_of_ble_eq_true rfl) ?_
            refine r_iload_n dX6_sheet_0 rfl ?_
            refine r_iconst (v := 4) dX6_sheet_1 rfl ?_
            refine r_callS2 dX6_sheet_2 lk_X6_100 (Nat.le_of_ble_eq_true rfl) (win_t (lim := 4) rfl (by decide) hs ?_)
            refine r_if_eq (tgt := 18) dX6_sheet_5 (by decide) (fun hqz => absurd hqz (by decide)) (fun _ => ?_)
            refine r_iload_n dX6_sheet_8 rfl ?_
            refine r_iconst (v := (-1)) dX6_sheet_9 rfl ?_
            refine r_icmp_lt (tgt := 18) dX6_sheet_10 (by decide) (fun hqz => absurd hqz (nI_nlm1 (by omega))) (fun _ => ?_)
            refine r_iload_n dX6_sheet_13 rfl ?_
            refine r_iconst (v := 3) dX6_sheet_14 rfl ?_
            refine r_icmp_lt (tgt := 21) dX6_sheet_15 (by decide) (fun _ => ?_) (fun hqz => absurd (nI_lt ht (by decide)) hqz)
            refine r_iload_n dX6_sheet_21 rfl ?_
            refine r_iconst (v := (-1)) dX6_sheet_22 rfl ?_
            refine r_icmp_eq (tgt := 35) dX6_sheet_23 (by decide) (fun hqz => absurd hqz t1) (fun _ => ?_)
            refine r_iload_n dX6_sheet_26 rfl ?_
            refine r_bipush (v := 40) dX6_sheet_27 rfl ?_
            refine r_icmp_le (tgt := 35) dX6_sheet_29 (by decide) (fun _ => ?_) (fun hqz => absurd (nI_le (show y ≤ 40 from hy) (by decide)) hqz)
            refine r_iload_n dX6_sheet_35 rfl ?_
            refine r_iconst (v := (-1)) dX6_sheet_36 rfl ?_
            refine r_icmp_eq (tgt := 47) dX6_sheet_37 (by decide) (fun hqz => absurd hqz t1) (fun _ => ?_)
            refine r_iload_n dX6_sheet_40 rfl ?_
            refine r_if_ge (tgt := 47) dX6_sheet_41 (by decide) (fun _ => ?_) (fun hqz => absurd (nI_pos' (by omega)) hqz)
            refine r_aload_n dX6_sheet_47 rfl ?_
            refine r_getR dX6_sheet_48 fl_X6_52 (ly_0 hEc) rfl ?_
            refine r_iload_n dX6_sheet_51 rfl ?_
            refine r_aaldN dX6_sheet_52 (ly_7 hEc) (show s < 4 by omega) (by decide) (ly_7r (by omega)) ?_
            refine r_iload_n dX6_sheet_53 rfl ?_
            refine r_iload_n dX6_sheet_54 rfl ?_
            refine r_iconst (v := (-1)) dX6_sheet_55 rfl ?_
            refine r_icmp_ne (tgt := 63) dX6_sheet_56 (by decide) (fun _ => ?_) (fun hqz => absurd hqz t1)
            refine r_iload_n dX6_sheet_63 rfl ?_
            refine r_callV2 dX6_sheet_64 lk_X6_288 (ly_sh hEc hs) rfl (Nat.le_of_ble_eq_true rfl) (bcm_ok hEc hs hy (fun A1 f1 c1 c2 c3 => ?_))
            refine r_iconst (v := 1) dX6_sheet_67 rfl ?_
            refine r_ireturn dX6_sheet_68 rfl rfl ?_
            exact hk A1 L (shS_rc hs hR f1 c1 c2 c3) (Fr.hi f1 (by simp; omega))
          · obtain ⟨-, -, -, -, -, -, -, -, r53, r54, r55, -⟩ := id hR
            have fr : Fr [53, 54, 55, 56] A (va_up (s2 (s2 A 53 s (nI t)) 54 s (nI y)) 55 (fb_put (A 55) (fun _ => 0) (40 * s) 40)) := (Fr.s2 (by decide)).tr ((Fr.s2 (by decide)).tr (Fr.up (by decide)))
            have K := hk _ L (hR.sh shS_fr fr (by rw [va_up_no (by decide), s2_ne (by decide), s2_eq, shS_53, r53]) (by rw [va_up_no (by decide), s2_eq, s2_ne (by decide), shS_54, r54]) (by rw [va_up_eq, shS_55, r55])) (Fr.lo fr (by decide))
            refine qC.enter (by decide) (Nat.le_of_ble_eq_true rfl) ?_
            refine r_iload_n dX7_sheet_0 rfl ?_
            refine r_callS1 dX7_sheet_1 lk_X7_254 (Nat.le_of_ble_eq_true rfl) (iss_t hE hs ?_)
            refine r_if_eq (tgt := 27) dX7_sheet_4 (by decide) (fun hqz => absurd hqz (by decide)) (fun _ => ?_)
            refine r_iload_n dX7_sheet_7 rfl ?_
            refine r_iconst (v := (-1)) dX7_sheet_8 rfl ?_
            refine r_iconst (v := 2) dX7_sheet_9 rfl ?_
            refine r_callS3 dX7_sheet_10 lk_X7_78 (Nat.le_of_ble_eq_true rfl) (sp_X7_isIn (fun _ _ => ?_) (fun q => absurd q (by have := nI_toInt (n := t) (by omega); rw [i_lt, i_lt, l1, l2, this]; omega)))
            refine r_if_eq (tgt := 27) dX7_sheet_13 (by decide) (fun hqz => absurd hqz (by decide)) (fun _ => ?_)
            refine r_iload_n dX7_sheet_16 rfl ?_
            refine r_iconst (v := (-1)) dX7_sheet_17 rfl ?_
            refine r_icmp_eq (tgt := 30) dX7_sheet_18 (by decide) (fun hqz => absurd hqz t1) (fun _ => ?_)
            refine r_iload_n dX7_sheet_21 rfl ?_
            refine r_bipush (v := 40) dX7_sheet_22 rfl ?_
            refine r_icmp_le (tgt := 30) dX7_sheet_24 (by decide) (fun _ => ?_) (fun hqz => absurd (nI_le (show y ≤ 40 from hy) (by decide)) hqz)
            refine r_iload_n dX7_sheet_30 rfl ?_
            refine r_iconst (v := (-1)) dX7_sheet_31 rfl ?_
            refine r_icmp_eq (tgt := 42) dX7_sheet_32 (by decide) (fun hqz => absurd hqz t1) (fun _ => ?_)
            refine r_iload_n dX7_sheet_35 rfl ?_
            refine r_if_ge (tgt := 42) dX7_sheet_36 (by decide) (fun _ => ?_) (fun hqz => absurd (nI_pos' (by omega)) hqz)
            refine r_aload_n dX7_sheet_42 rfl ?_
            refine r_getR dX7_sheet_43 fl_X7_63 (ly_38 hE) rfl ?_
            refine r_iload_n dX7_sheet_46 rfl ?_
            refine r_iload_n dX7_sheet_47 rfl ?_
            refine r_iastN dX7_sheet_48 (ly_53 hE) (by omega) (by decide) ?_
            refine r_aload_n dX7_sheet_49 rfl ?_
            refine r_getR dX7_sheet_50 fl_X7_66 (ly_38 hE) rfl ?_
            refine r_iload_n dX7_sheet_53 rfl ?_
            refine r_iload_n dX7_sheet_54 rfl ?_
            refine r_iconst (v := (-1)) dX7_sheet_55 rfl ?_
            refine r_icmp_ne (tgt := 63) dX7_sheet_56 (by decide) (fun _ => ?_) (fun hqz => absurd hqz t1)
            refine r_iload_n dX7_sheet_63 rfl ?_
            refine r_iastN dX7_sheet_64 (ly_54 hE) (by omega) (by decide) ?_
            refine r_iconst (v := 0) dX7_sheet_65 rfl ?_
            refine r_istore (loc' := [(4, .int 0), (0, .ref 38), (1, .int (nI s)), (2, .int (nI t)), (3, .int (nI y))]) dX7_sheet_66 (by decide) rfl ?_
            have J := zero_loop (d := d + 3) (A := s2 (s2 A 53 s (nI t)) 54 s (nI y)) (L := L) (Ph := Ph) (t := (nI t)) (u := (nI y)) hE hs K 40 0 rfl
            rw [fb_put_0, up_self] at J
            exact J
        · refine ⟨.int (-2), S, T, n, z, ⟨_, rfl⟩, hW, fun A L Ph hR hk => ?_, fun A L Ph hR hk => ?_⟩
          · have K := hk A L hR (fun _ _ => rfl)
            refine qC.enter (by decide) (Nat.le_of_ble_eq_true rfl) ?_
            refine r_iload_n dX6_sheet_0 rfl ?_
            refine r_iconst (v := 4) dX6_sheet_1 rfl ?_
            refine r_callS2 dX6_sheet_2 lk_X6_100 (Nat.le_of_ble_eq_true rfl) (win_t (lim := 4) rfl (by decide) hs ?_)
            refine r_if_eq (tgt := 18) dX6_sheet_5 (by decide) (fun hqz => absurd hqz (by decide)) (fun _ => ?_)
            refine r_iload_n dX6_sheet_8 rfl ?_
            refine r_iconst (v := (-1)) dX6_sheet_9 rfl ?_
            refine r_icmp_lt (tgt := 18) dX6_sheet_10 (by decide) (fun hqz => absurd hqz (nI_nlm1 (by omega))) (fun _ => ?_)
            refine r_iload_n dX6_sheet_13 rfl ?_
            refine r_iconst (v := 3) dX6_sheet_14 rfl ?_
            refine r_icmp_lt (tgt := 21) dX6_sheet_15 (by decide) (fun _ => ?_) (fun hqz => absurd (nI_lt ht (by decide)) hqz)
            refine r_iload_n dX6_sheet_21 rfl ?_
            refine r_iconst (v := (-1)) dX6_sheet_22 rfl ?_
            refine r_icmp_eq (tgt := 35) dX6_sheet_23 (by decide) (fun hqz => absurd hqz t1) (fun _ => ?_)
            refine r_iload_n dX6_sheet_26 rfl ?_
            refine r_bipush (v := 40) dX6_sheet_27 rfl ?_
            refine r_icmp_le (tgt := 35) dX6_sheet_29 (by decide) (fun hqz => absurd hqz (by rw [i_le]; rw [i_lt] at y40; omega)) (fun _ => ?_)
            refine r_bipush (v := (-2)) dX6_sheet_32 rfl ?_
            refine r_ireturn dX6_sheet_34 rfl rfl ?_
            exact K
          · have K := hk A L hR (fun _ _ => rfl)
            refine qC.enter (by decide) (Nat.le_of_ble_eq_true rfl) ?_
            refine r_iload_n dX7_sheet_0 rfl ?_
            refine r_callS1 dX7_sheet_1 lk_X7_254 (Nat.le_of_ble_eq_true rfl) (iss_t hE hs ?_)
            refine r_if_eq (tgt := 27) dX7_sheet_4 (by decide) (fun hqz => absurd hqz (by decide)) (fun _ => ?_)
            refine r_iload_n dX7_sheet_7 rfl ?_
            refine r_iconst (v := (-1)) dX7_sheet_8 rfl ?_
            refine r_iconst (v := 2) dX7_sheet_9 rfl ?_
            refine r_callS3 dX7_sheet_10 lk_X7_78 (Nat.le_of_ble_eq_true rfl) (sp_X7_isIn (fun _ _ => ?_) (fun q => absurd q (by have := nI_toInt (n := t) (by omega); rw [i_lt, i_lt, l1, l2, this]; omega)))
            refine r_if_eq (tgt := 27) dX7_sheet_13 (by decide) (fun hqz => absurd hqz (by decide)) (fun _ => ?_)
            refine r_iload_n dX7_sheet_16 rfl ?_
            refine r_iconst (v := (-1)) dX7_sheet_17 rfl ?_
            refine r_icmp_eq (tgt := 30) dX7_sheet_18 (by decide) (fun hqz => absurd hqz t1) (fun _ => ?_)
            refine r_iload_n dX7_sheet_21 rfl ?_
            refine r_bipush (v := 40) dX7_sheet_22 rfl ?_
            refine r_icmp_le (tgt := 30) dX7_sheet_24 (by decide) (fun hqz => absurd hqz (by rw [i_le]; rw [i_lt] at y40; omega)) (fun _ => ?_)
            refine r_bipush (v := (-2)) dX7_sheet_27 rfl ?_
            refine r_ireturn dX7_sheet_29 rfl rfl ?_
            exact K
      · have tx : tv < -1 ∨ 3 ≤ tv := by
          rcases pk_ix tv (n := 3) (by decide) with q | q | ⟨j, hj, e⟩
          · left
            have : tv.toInt ≠ -1 := fun e => t1 ((i_eq _ _).mpr (e.trans l1.symm))
            rw [i_lt, l5] at q
            rw [i_lt, l1]
            omega
          · exact Or.inr q
          · exact absurd e (tb j hj)
        refine ⟨.int (-2), S, T, n, z, ⟨_, rfl⟩, hW, fun A L Ph hR hk => ?_, fun A L Ph hR hk => ?_⟩
        · have K := hk A L hR (fun _ _ => rfl)
          refine qC.enter (by decide) (Nat.le_of_ble_eq_true rfl) ?_
          refine r_iload_n dX6_sheet_0 rfl ?_
          refine r_iconst (v := 4) dX6_sheet_1 rfl ?_
          refine r_callS2 dX6_sheet_2 lk_X6_100 (Nat.le_of_ble_eq_true rfl) (win_t (lim := 4) rfl (by decide) hs ?_)
          refine r_if_eq (tgt := 18) dX6_sheet_5 (by decide) (fun hqz => absurd hqz (by decide)) (fun _ => ?_)
          refine r_iload_n dX6_sheet_8 rfl ?_
          refine r_iconst (v := (-1)) dX6_sheet_9 rfl ?_
          refine r_icmp_lt (tgt := 18) dX6_sheet_10 (by decide) (fun b10 => ?_) (fun b10 => ?_)
          · refine r_bipush (v := (-2)) dX6_sheet_18 rfl ?_
            refine r_ireturn dX6_sheet_20 rfl rfl ?_
            exact K
          · refine r_iload_n dX6_sheet_13 rfl ?_
            refine r_iconst (v := 3) dX6_sheet_14 rfl ?_
            refine r_icmp_lt (tgt := 21) dX6_sheet_15 (by decide) (fun hqz => absurd hqz (by have q := tx.resolve_left b10; rw [i_lt]; rw [i_le] at q; omega)) (fun _ => ?_)
            refine r_bipush (v := (-2)) dX6_sheet_18 rfl ?_
            refine r_ireturn dX6_sheet_20 rfl rfl ?_
            exact K
        · have K := hk A L hR (fun _ _ => rfl)
          refine qC.enter (by decide) (Nat.le_of_ble_eq_true rfl) ?_
          refine r_iload_n dX7_sheet_0 rfl ?_
          refine r_callS1 dX7_sheet_1 lk_X7_254 (Nat.le_of_ble_eq_true rfl) (iss_t hE hs ?_)
          refine r_if_eq (tgt := 27) dX7_sheet_4 (by decide) (fun hqz => absurd hqz (by decide)) (fun _ => ?_)
          refine r_iload_n dX7_sheet_7 rfl ?_
          refine r_iconst (v := (-1)) dX7_sheet_8 rfl ?_
          refine r_iconst (v := 2) dX7_sheet_9 rfl ?_
          refine r_callS3 dX7_sheet_10 lk_X7_78 (Nat.le_of_ble_eq_true rfl) (sp_X7_isIn (fun q1 q2 => absurd tx (by rw [i_lt, i_le, l1, l3]; rw [i_le, l1] at q1; rw [i_le, l2] at q2; omega)) (fun _ => ?_))
          refine r_if_eq (tgt := 27) dX7_sheet_13 (by decide) (fun _ => ?_) (fun hqz => absurd (by decide) hqz)
          refine r_bipush (v := (-2)) dX7_sheet_27 rfl ?_
          refine r_ireturn dX7_sheet_29 rfl rfl ?_
          exact K
  · refine ⟨.int (-2), S, T, n, z, ⟨_, rfl⟩, hW, fun A L Ph hR hk => ?_, fun A L Ph hR hk => ?_⟩
    · have K := hk A L hR (fun _ _ => rfl)
      refine qC.enter (by decide) (Nat.le_of_ble_eq_true rfl) ?_
      refine r_iload_n dX6_sheet_0 rfl ?_
      refine r_iconst (v := 4) dX6_sheet_1 rfl ?_
      refine r_callS2 dX6_sheet_2 lk_X6_100 (Nat.le_of_ble_eq_true rfl) (win_f 4 rfl (by decide) hv ?_)
      refine r_if_eq (tgt := 18) dX6_sheet_5 (by decide) (fun _ => ?_) (fun hqz => absurd (by decide) hqz)
      refine r_bipush (v := (-2)) dX6_sheet_18 rfl ?_
      refine r_ireturn dX6_sheet_20 rfl rfl ?_
      exact K
    · have K := hk A L hR (fun _ _ => rfl)
      refine qC.enter (by decide) (Nat.le_of_ble_eq_true rfl) ?_
      refine r_iload_n dX7_sheet_0 rfl ?_
      refine r_callS1 dX7_sheet_1 lk_X7_254 (Nat.le_of_ble_eq_true rfl) (iss_f hE hv ?_)
      refine r_if_eq (tgt := 27) dX7_sheet_4 (by decide) (fun _ => ?_) (fun hqz => absurd (by decide) hqz)
      refine r_bipush (v := (-2)) dX7_sheet_27 rfl ?_
      refine r_ireturn dX7_sheet_29 rfl rfl ?_
      exact K
set_option maxRecDepth 100000 in
set_option maxHeartbeats 4000000 in
theorem op_cell (hE : hM E) (hW : WfS S T n z) (sv iv v : Int32) : OpOK E (d + 3) mm_X6_cell mm_X7_cell [.int sv, .int iv, .int v] S T n z := by
  have hEc := hE.c
  have hN := hW.2.2.2.2.1
  have hn := hN.1
  have h60 := hN.2.1
  rcases pk_cases sv 4 with ⟨s, hs, rfl⟩ | hv
  · obtain ⟨hso, y, hy, e54⟩ := hW.2.2.2.2.2.2.2 s hs
    by_cases t1 : S 53 s = -1
    · refine ⟨.int (-11), S, T, n, z, ⟨_, rfl⟩, hW, fun A L Ph hR hk => ?_, fun A L Ph hR hk => ?_⟩
      · have K := hk A L hR (fun _ _ => rfl)
        refine qC.enter (by decide) (Nat.le_of_ble_eq_true rfl) ?_
        refine r_iload_n dX6_cell_0 rfl ?_
        refine r_iconst (v := 4) dX6_cell_1 rfl ?_
        refine r_callS2 dX6_cell_2 lk_X6_100 (Nat.le_of_ble_eq_true rfl) (win_t (lim := 4) rfl (by decide) hs ?_)
        refine r_if_ne (tgt := 11) dX6_cell_5 (by decide) (fun _ => ?_) (fun hqz => absurd hqz (by decide))
        refine r_aload_n dX6_cell_11 rfl ?_
        refine r_getR dX6_cell_12 fl_X6_52 (ly_0 hEc) rfl ?_
        refine r_iload_n dX6_cell_15 rfl ?_
        refine r_aaldN dX6_cell_16 (ly_7 hEc) (show s < 4 by omega) (by decide) (ly_7r (by omega)) ?_
        refine r_callV0 dX6_cell_17 lk_X6_246 (ly_sh hEc hs) rfl (Nat.le_of_ble_eq_true rfl) (mis_t hEc hs ((hR.2.2.2.2.2 s hs).1.trans t1) ?_)
        refine r_if_eq (tgt := 26) dX6_cell_20 (by decide) (fun hqz => absurd hqz (by decide)) (fun _ => ?_)
        refine r_bipush (v := (-11)) dX6_cell_23 rfl ?_
        refine r_ireturn dX6_cell_25 rfl rfl ?_
        exact K
      · have K := hk A L hR (fun _ _ => rfl)
        have r53 := hR.2.2.2.2.2.2.2.2.1
        refine qC.enter (by decide) (Nat.le_of_ble_eq_true rfl) ?_
        refine r_iload_n dX7_cell_0 rfl ?_
        refine r_callS1 dX7_cell_1 lk_X7_254 (Nat.le_of_ble_eq_true rfl) (iss_t hE hs ?_)
        refine r_if_ne (tgt := 10) dX7_cell_4 (by decide) (fun _ => ?_) (fun hqz => absurd hqz (by decide))
        refine r_aload_n dX7_cell_10 rfl ?_
        refine r_getR dX7_cell_11 fl_X7_63 (ly_38 hE) rfl ?_
        refine r_iload_n dX7_cell_14 rfl ?_
        refine r_ialdN dX7_cell_15 (ly_53 hE) (by omega) (by decide) ?_
        refine r_rw (y := -1) (by rw [r53]; exact t1) ?_
        refine r_iconst (v := (-1)) dX7_cell_16 rfl ?_
        refine r_icmp_ne (tgt := 23) dX7_cell_17 (by decide) (fun hqz => absurd (by decide) hqz) (fun _ => ?_)
        refine r_bipush (v := (-11)) dX7_cell_20 rfl ?_
        refine r_ireturn dX7_cell_22 rfl rfl ?_
        exact K
    · rcases pk_cases iv y with ⟨i, hi, rfl⟩ | ib
      · refine ⟨.int 1, s2 S 55 (40 * s + i) (cutF (S 53 s) v), T, n, z, ⟨_, rfl⟩, hW.sh (Fr.s2 (by decide)) (fun q hq => by rw [s2_ne (by decide), s2_ne (by decide)]; exact hW.2.2.2.2.2.2.2 q hq), fun A L Ph hR hk => ?_, fun A L Ph hR hk => ?_⟩
        · obtain ⟨a1, a2, a3⟩ := hR.2.2.2.2.2 s hs
          have fr : Fr [34 + s] A (s2 A (34 + s) i (cutF (A (8 + s) 1) v)) := Fr.s2 (by simp)
          have K := hk _ L (hR.sh (S' := s2 S 55 (40 * s + i) (cutF (S 53 s) v)) (Fr.s2 (by decide)) (fr.mo (by simp; omega)) (fun q hq => by
            obtain ⟨b1, b2, b3⟩ := hR.2.2.2.2.2 q hq
            rw [fr (8 + q) (by simp; omega), s2_ne (show (53 : Nat) ≠ 55 by decide), s2_ne (show (54 : Nat) ≠ 55 by decide)]
            refine ⟨b1, b2, fun j hj => ?_⟩
            by_cases e : q = s ∧ j = i
            · obtain ⟨rfl, rfl⟩ := e
              rw [s2_same, s2_same, a1]
            · rw [s2_nj (fun z => by omega), s2_nj (fun z => by omega)]
              exact b3 j hj)) (Fr.hi fr (by simp; omega))
          refine qC.enter (by decide) (Nat.le_of_ble_eq_true rfl) ?_
          refine r_iload_n dX6_cell_0 rfl ?_
          refine r_iconst (v := 4) dX6_cell_1 rfl ?_
          refine r_callS2 dX6_cell_2 lk_X6_100 (Nat.le_of_ble_eq_true rfl) (win_t (lim := 4) rfl (by decide) hs ?_)
          refine r_if_ne (tgt := 11) dX6_cell_5 (by decide) (fun _ => ?_) (fun hqz => absurd hqz (by decide))
          refine r_aload_n dX6_cell_11 rfl ?_
          refine r_getR dX6_cell_12 fl_X6_52 (ly_0 hEc) rfl ?_
          refine r_iload_n dX6_cell_15 rfl ?_
          refine r_aaldN dX6_cell_16 (ly_7 hEc) (show s < 4 by omega) (by decide) (ly_7r (by omega)) ?_
          refine r_callV0 dX6_cell_17 lk_X6_246 (ly_sh hEc hs) rfl (Nat.le_of_ble_eq_true rfl) (mis_f hEc hs (by rw [a1]; exact t1) ?_)
          refine r_if_eq (tgt := 26) dX6_cell_20 (by decide) (fun _ => ?_) (fun hqz => absurd (by decide) hqz)
          refine r_aload_n dX6_cell_26 rfl ?_
          refine r_getR dX6_cell_27 fl_X6_52 (ly_0 hEc) rfl ?_
          refine r_iload_n dX6_cell_30 rfl ?_
          refine r_aaldN dX6_cell_31 (ly_7 hEc) (show s < 4 by omega) (by decide) (ly_7r (by omega)) ?_
          refine r_iload_n dX6_cell_32 rfl ?_
          refine r_iload_n dX6_cell_33 rfl ?_
          refine r_callV2 dX6_cell_34 lk_X6_291 (ly_sh hEc hs) rfl (Nat.le_of_ble_eq_true rfl) (put_ok hEc hs hy (a2.trans e54) hi ?_)
          refine r_if_eq (tgt := 44) dX6_cell_37 (by decide) (fun hqz => absurd hqz (by decide)) (fun _ => ?_)
          refine r_iconst (v := 1) dX6_cell_40 rfl ?_
          refine r_goto (tgt := 46) dX6_cell_41 (by decide) ?_
          refine r_ireturn dX6_cell_46 rfl rfl ?_
          exact K
        · have r53 := hR.2.2.2.2.2.2.2.2.1
          have r54 := hR.2.2.2.2.2.2.2.2.2.1
          have r55 := hR.2.2.2.2.2.2.2.2.2.2.1
          have fr : Fr [53, 54, 55, 56] A (s2 A 55 (40 * s + i) (cutF (S 53 s) v)) := Fr.s2 (by decide)
          have K := hk _ L (hR.sh (S' := s2 S 55 (40 * s + i) (cutF (S 53 s) v)) (Fr.s2 (by decide)) fr (by rw [s2_ne (by decide), s2_ne (by decide), r53]) (by rw [s2_ne (by decide), s2_ne (by decide), r54]) (by rw [s2_eq, s2_eq, r55])) (Fr.lo fr (by decide))
          refine qC.enter (by decide) (Nat.le_of_ble_eq_true rfl) ?_
          refine r_iload_n dX7_cell_0 rfl ?_
          refine r_callS1 dX7_cell_1 lk_X7_254 (Nat.le_of_ble_eq_true rfl) (iss_t hE hs ?_)
          refine r_if_ne (tgt := 10) dX7_cell_4 (by decide) (fun _ => ?_) (fun hqz => absurd hqz (by decide))
          refine r_aload_n dX7_cell_10 rfl ?_
          refine r_getR dX7_cell_11 fl_X7_63 (ly_38 hE) rfl ?_
          refine r_iload_n dX7_cell_14 rfl ?_
          refine r_ialdN dX7_cell_15 (ly_53 hE) (by omega) (by decide) ?_
          refine r_iconst (v := (-1)) dX7_cell_16 rfl ?_
          refine r_icmp_ne (tgt := 23) dX7_cell_17 (by decide) (fun _ => ?_) (fun hqz => absurd hqz (by rw [r53]; exact t1))
          refine r_iload_n dX7_cell_23 rfl ?_
          refine r_iconst (v := 0) dX7_cell_24 rfl ?_
          refine r_aload_n dX7_cell_25 rfl ?_
          refine r_getR dX7_cell_26 fl_X7_66 (ly_38 hE) rfl ?_
          refine r_iload_n dX7_cell_29 rfl ?_
          refine r_ialdN dX7_cell_30 (ly_54 hE) (by omega) (by decide) ?_
          refine r_rw (y := nI y) (by rw [r54]; exact e54) ?_
          refine r_iconst (v := 1) dX7_cell_31 rfl ?_
          refine r_isub dX7_cell_32 ?_
          refine r_callS3 dX7_cell_33 lk_X7_78 (Nat.le_of_ble_eq_true rfl) (in_t rfl rfl (by omega) hi ?_)
          refine r_if_ne (tgt := 42) dX7_cell_36 (by decide) (fun _ => ?_) (fun hqz => absurd hqz (by decide))
          refine r_aload_n dX7_cell_42 rfl ?_
          refine r_getR dX7_cell_43 fl_X7_69 (ly_38 hE) rfl ?_
          refine r_bipush (v := 40) dX7_cell_46 rfl ?_
          refine r_iload_n dX7_cell_48 rfl ?_
          refine r_imul dX7_cell_49 ?_
          refine r_iload_n dX7_cell_50 rfl ?_
          refine r_iadd dX7_cell_51 ?_
          refine r_rw (y := nI (40 * s + i)) (show nI 40 * nI s + nI i = _ by rw [pk_mul, nI_add]) ?_
          refine r_aload_n dX7_cell_52 rfl ?_
          refine r_getR dX7_cell_53 fl_X7_63 (ly_38 hE) rfl ?_
          refine r_iload_n dX7_cell_56 rfl ?_
          refine r_ialdN dX7_cell_57 (ly_53 hE) (by omega) (by decide) ?_
          refine r_rw (y := S 53 s) (by rw [r53]) ?_
          refine r_if_ne (tgt := 66) dX7_cell_58 (by decide) (fun b58 => ?_) (fun b58 => ?_)
          · refine r_aload_n dX7_cell_66 rfl ?_
            refine r_getR dX7_cell_67 fl_X7_63 (ly_38 hE) rfl ?_
            refine r_iload_n dX7_cell_70 rfl ?_
            refine r_ialdN dX7_cell_71 (ly_53 hE) (by omega) (by decide) ?_
            refine r_rw (y := S 53 s) (by rw [r53]) ?_
            refine r_iconst (v := 1) dX7_cell_72 rfl ?_
            refine r_icmp_ne (tgt := 81) dX7_cell_73 (by decide) (fun b73 => ?_) (fun b73 => ?_)
            · refine r_iload_n dX7_cell_81 rfl ?_
              refine r_iastN dX7_cell_82 (ly_55 hE) (by omega) (by decide) ?_
              refine r_iconst (v := 1) dX7_cell_83 rfl ?_
              refine r_ireturn dX7_cell_84 rfl rfl ?_
              unfold cutF at K
              first | rwa [if_pos b58] at K | rwa [if_neg b58, if_pos b73] at K | rwa [if_neg b58, if_neg b73] at K
            · refine r_iload_n dX7_cell_76 rfl ?_
              refine r_i2s dX7_cell_77 ?_
              refine r_goto (tgt := 82) dX7_cell_78 (by decide) ?_
              refine r_iastN dX7_cell_82 (ly_55 hE) (by omega) (by decide) ?_
              refine r_iconst (v := 1) dX7_cell_83 rfl ?_
              refine r_ireturn dX7_cell_84 rfl rfl ?_
              unfold cutF at K
              first | rwa [if_pos b58] at K | rwa [if_neg b58, if_pos b73] at K | rwa [if_neg b58, if_neg b73] at K
          · refine r_iload_n dX7_cell_61 rfl ?_
            refine r_i2b dX7_cell_62 ?_
            refine r_goto (tgt := 82) dX7_cell_63 (by decide) ?_
            refine r_iastN dX7_cell_82 (ly_55 hE) (by omega) (by decide) ?_
            refine r_iconst (v := 1) dX7_cell_83 rfl ?_
            refine r_ireturn dX7_cell_84 rfl rfl ?_
            unfold cutF at K
            first | rwa [if_pos b58] at K | rwa [if_neg b58, if_pos b73] at K | rwa [if_neg b58, if_neg b73] at K
      · refine ⟨.int (-12), S, T, n, z, ⟨_, rfl⟩, hW, fun A L Ph hR hk => ?_, fun A L Ph hR hk => ?_⟩
        · have K := hk A L hR (fun _ _ => rfl)
          obtain ⟨a1, a2, a3⟩ := hR.2.2.2.2.2 s hs
          refine qC.enter (by decide) (Nat.le_of_ble_eq_true rfl) ?_
          refine r_iload_n dX6_cell_0 rfl ?_
          refine r_iconst (v := 4) dX6_cell_1 rfl ?_
          refine r_callS2 dX6_cell_2 lk_X6_100 (Nat.le_of_ble_eq_true rfl) (win_t (lim := 4) rfl (by decide) hs ?_)
          refine r_if_ne (tgt := 11) dX6_cell_5 (by decide) (fun _ => ?_) (fun hqz => absurd hqz (by decide))
          refine r_aload_n dX6_cell_11 rfl ?_
          refine r_getR dX6_cell_12 fl_X6_52 (ly_0 hEc) rfl ?_
          refine r_iload_n dX6_cell_15 rfl ?_
          refine r_aaldN dX6_cell_16 (ly_7 hEc) (show s < 4 by omega) (by decide) (ly_7r (by omega)) ?_
          refine r_callV0 dX6_cell_17 lk_X6_246 (ly_sh hEc hs) rfl (Nat.le_of_ble_eq_true rfl) (mis_f hEc hs (by rw [a1]; exact t1) ?_)
          refine r_if_eq (tgt := 26) dX6_cell_20 (by decide) (fun _ => ?_) (fun hqz => absurd (by decide) hqz)
          refine r_aload_n dX6_cell_26 rfl ?_
          refine r_getR dX6_cell_27 fl_X6_52 (ly_0 hEc) rfl ?_
          refine r_iload_n dX6_cell_30 rfl ?_
          refine r_aaldN dX6_cell_31 (ly_7 hEc) (show s < 4 by omega) (by decide) (ly_7r (by omega)) ?_
          refine r_iload_n dX6_cell_32 rfl ?_
          refine r_iload_n dX6_cell_33 rfl ?_
          refine r_callV2 dX6_cell_34 lk_X6_291 (ly_sh hEc hs) rfl (Nat.le_of_ble_eq_true rfl) (put_no hEc hs hy (a2.trans e54) ib ?_)
          refine r_if_eq (tgt := 44) dX6_cell_37 (by decide) (fun _ => ?_) (fun hqz => absurd (by decide) hqz)
          refine r_bipush (v := (-12)) dX6_cell_44 rfl ?_
          refine r_ireturn dX6_cell_46 rfl rfl ?_
          exact K
        · have K := hk A L hR (fun _ _ => rfl)
          have r53 := hR.2.2.2.2.2.2.2.2.1
          have r54 := hR.2.2.2.2.2.2.2.2.2.1
          refine qC.enter (by decide) (Nat.le_of_ble_eq_true rfl) ?_
          refine r_iload_n dX7_cell_0 rfl ?_
          refine r_callS1 dX7_cell_1 lk_X7_254 (Nat.le_of_ble_eq_true rfl) (iss_t hE hs ?_)
          refine r_if_ne (tgt := 10) dX7_cell_4 (by decide) (fun _ => ?_) (fun hqz => absurd hqz (by decide))
          refine r_aload_n dX7_cell_10 rfl ?_
          refine r_getR dX7_cell_11 fl_X7_63 (ly_38 hE) rfl ?_
          refine r_iload_n dX7_cell_14 rfl ?_
          refine r_ialdN dX7_cell_15 (ly_53 hE) (by omega) (by decide) ?_
          refine r_iconst (v := (-1)) dX7_cell_16 rfl ?_
          refine r_icmp_ne (tgt := 23) dX7_cell_17 (by decide) (fun _ => ?_) (fun hqz => absurd hqz (by rw [r53]; exact t1))
          refine r_iload_n dX7_cell_23 rfl ?_
          refine r_iconst (v := 0) dX7_cell_24 rfl ?_
          refine r_aload_n dX7_cell_25 rfl ?_
          refine r_getR dX7_cell_26 fl_X7_66 (ly_38 hE) rfl ?_
          refine r_iload_n dX7_cell_29 rfl ?_
          refine r_ialdN dX7_cell_30 (ly_54 hE) (by omega) (by decide) ?_
          refine r_rw (y := nI y) (by rw [r54]; exact e54) ?_
          refine r_iconst (v := 1) dX7_cell_31 rfl ?_
          refine r_isub dX7_cell_32 ?_
          refine r_callS3 dX7_cell_33 lk_X7_78 (Nat.le_of_ble_eq_true rfl) (in_f y rfl rfl (by omega) ib ?_)
          refine r_if_ne (tgt := 42) dX7_cell_36 (by decide) (fun hqz => absurd (by decide) hqz) (fun _ => ?_)
          refine r_bipush (v := (-12)) dX7_cell_39 rfl ?_
          refine r_ireturn dX7_cell_41 rfl rfl ?_
          exact K
  · refine ⟨.int (-2), S, T, n, z, ⟨_, rfl⟩, hW, fun A L Ph hR hk => ?_, fun A L Ph hR hk => ?_⟩
    · have K := hk A L hR (fun _ _ => rfl)
      refine qC.enter (by decide) (Nat.le_of_ble_eq_true rfl) ?_
      refine r_iload_n dX6_cell_0 rfl ?_
      refine r_iconst (v := 4) dX6_cell_1 rfl ?_
      refine r_callS2 dX6_cell_2 lk_X6_100 (Nat.le_of_ble_eq_true rfl) (win_f 4 rfl (by decide) hv ?_)
      refine r_if_ne (tgt := 11) dX6_cell_5 (by decide) (fun hqz => absurd (by decide) hqz) (fun _ => ?_)
      refine r_bipush (v := (-2)) dX6_cell_8 rfl ?_
      refine r_ireturn dX6_cell_10 rfl rfl ?_
      exact K
    · have K := hk A L hR (fun _ _ => rfl)
      refine qC.enter (by decide) (Nat.le_of_ble_eq_true rfl) ?_
      refine r_iload_n dX7_cell_0 rfl ?_
      refine r_callS1 dX7_cell_1 lk_X7_254 (Nat.le_of_ble_eq_true rfl) (iss_f hE hv ?_)
      refine r_if_ne (tgt := 10) dX7_cell_4 (by decide) (fun hqz => absurd (by decide) hqz) (fun _ => ?_)
      refine r_bipush (v := (-2)) dX7_cell_7 rfl ?_
      refine r_ireturn dX7_cell_9 rfl rfl ?_
      exact K
end OPS11
