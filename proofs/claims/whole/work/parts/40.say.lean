/-! say, quiet -/
section OPS7
variable {E : mE} {d : Nat} {A S : mA} {L : mJ} {Ph : mP} {T n z p r : Nat} {kd nr : Int32}
set_option maxRecDepth 100000 in
set_option maxHeartbeats 4000000 in
theorem sp_X2_hear (hE : hC E) {a : Int32} {u : Nat} (hn : n ≤ 5) (h5 : A 1 5 = nI n) (hp : p < n) (hu : u < 10000) (h16 : A 16 p = nI u) (h : Ph none (s2 (s2 A 15 p a) 16 p (nI (min (u + 1) 9999))) L) : qC E mm_X2_hear (d + 2) [.ref 1, .int (nI p), .int a] A L Ph := by
  refine qC.enter (by decide) (Nat.le_of_ble_eq_true rfl) ?_
  refine r_aload_n dX2_hear_0 rfl ?_
  refine r_iload_n dX2_hear_1 rfl ?_
  refine r_callV1 dX2_hear_2 lk_X2_47 (ly_1 hE) rfl (Nat.le_of_ble_eq_true rfl) (has_t hE hn h5 hp ?_)
  refine r_if_eq (tgt := 35) dX2_hear_5 (by decide) (fun hqz => absurd hqz (by decide)) (fun _ => ?_)
  refine r_aload_n dX2_hear_8 rfl ?_
  refine r_getR dX2_hear_9 fl_X2_21 (ly_1 hE) rfl ?_
  refine r_iload_n dX2_hear_12 rfl ?_
  refine r_iload_n dX2_hear_13 rfl ?_
  refine r_iastN dX2_hear_14 (ly_15 hE) (by omega) (by decide) ?_
  refine r_aload_n dX2_hear_15 rfl ?_
  refine r_getR dX2_hear_16 fl_X2_24 (ly_1 hE) rfl ?_
  refine r_iload_n dX2_hear_19 rfl ?_
  refine r_sipush (v := 9999) dX2_hear_20 rfl ?_
  refine r_aload_n dX2_hear_23 rfl ?_
  refine r_getR dX2_hear_24 fl_X2_24 (ly_1 hE) rfl ?_
  refine r_iload_n dX2_hear_27 rfl ?_
  refine r_ialdN dX2_hear_28 (ly_16 hE) (by omega) (by decide) ?_
  refine r_rw (y := nI u) (by rw [s2_ne (by decide)]; exact h16) ?_
  refine r_iconst (v := 1) dX2_hear_29 rfl ?_
  refine r_iadd dX2_hear_30 ?_
  refine r_mmin dX2_hear_31 lmn_X2_51 (Nat.le_of_ble_eq_true rfl) ?_
  refine r_rw (y := nI (min (u + 1) 9999)) (told_ok hu).1 ?_
  refine r_iastN dX2_hear_34 (ly_16 hE) (by omega) (by decide) ?_
  refine r_return dX2_hear_35 rfl ?_
  exact h
set_option maxRecDepth 100000 in
set_option maxHeartbeats 4000000 in
theorem op_say (hE : hM E) (hW : WfS S T n z) (pv wv : Int32) : OpOK E (d + 6) mm_X6_say mm_X7_say [.int pv, .int wv] S T n z := by
  have hEc := hE.c
  have hN := hW.2.2.2.2.1
  have hn := hN.1
  have h60 := hN.2.1
  by_cases hb : (∃ p, p < n ∧ pv = nI p) ∧ ∃ w, w < 6 ∧ wv = nI w
  · obtain ⟨⟨p, hp, rfl⟩, ⟨w, hw, rfl⟩⟩ := hb
    obtain ⟨j, hj, ej⟩ := bw_ok (S := S) (p := p) (anP S p) (nI w)
    obtain ⟨u, hu, eu⟩ := (hN.2.2.2.2.1 p hp).2.2.2
    have hn5 : p < 5 := by omega
    have hs : ∀ X : mA, ∀ k, k ≠ 39 → s2 (s2 X 39 (42 + 4 * p) (nI j)) 39 (43 + 4 * p) (nI (min (u + 1) 9999)) k = X k := fun X k hk => by rw [s2_ne hk, s2_ne hk]
    refine ⟨.int (nI j), s2 (s2 S 39 (42 + 4 * p) (nI j)) 39 (43 + 4 * p) (nI (min (u + 1) 9999)), T, n, z, ⟨_, rfl⟩, hW.now (hs S) (by rw [s2_eq, s2_eq]; exact (hN.of hp (Or.inr (Or.inl ⟨rfl, hj⟩))).of hp (Or.inr (Or.inr ⟨rfl, by omega⟩))), fun A L Ph hR hk => ?_, fun A L Ph hR hk => ?_⟩
    · skip
      refine qC.enter (by decide) (Nat.le_of_ble_eq_true rfl) ?_
      refine r_aload_n dX6_say_0 rfl ?_
      refine r_getR dX6_say_1 fl_X6_10 (ly_0 hEc) rfl ?_
      refine r_iload_n dX6_say_4 rfl ?_
      refine r_callV1 dX6_say_5 lk_X6_125 (ly_1 hEc) rfl (Nat.le_of_ble_eq_true rfl) (has_t hEc hn (hR.1.2.2.1.trans h60) hp ?_)
      refine r_if_eq (tgt := 20) dX6_say_8 (by decide) (fun hqz => absurd hqz (by decide)) (fun _ => ?_)
      refine r_iload_n dX6_say_11 rfl ?_
      refine r_bipush (v := 6) dX6_say_12 rfl ?_
      refine r_callS2 dX6_say_14 lk_X6_100 (Nat.le_of_ble_eq_true rfl) (win_t (lim := 6) rfl (by decide) hw ?_)
      refine r_if_ne (tgt := 23) dX6_say_17 (by decide) (fun _ => ?_) (fun hqz => absurd hqz (by decide))
      refine r_aload_n dX6_say_23 rfl ?_
      refine r_getR dX6_say_24 fl_X6_38 (ly_0 hEc) rfl ?_
      refine r_aload_n dX6_say_27 rfl ?_
      refine r_getR dX6_say_28 fl_X6_10 (ly_0 hEc) rfl ?_
      refine r_iload_n dX6_say_31 rfl ?_
      refine r_callV2 dX6_say_32 lk_X6_128 (ly_5 hEc) rfl (Nat.le_of_ble_eq_true rfl) (co_of hEc hW hR hp (fun A1 f1 hc hR1 => ?_))
      refine r_aload_n dX6_say_35 rfl ?_
      refine r_getR dX6_say_36 fl_X6_38 (ly_0 hEc) rfl ?_
      refine r_aload_n dX6_say_39 rfl ?_
      refine r_getR dX6_say_40 fl_X6_10 (ly_0 hEc) rfl ?_
      refine r_iload_n dX6_say_43 rfl ?_
      refine r_callV1 dX6_say_44 lk_X6_132 (ly_1 hEc) rfl (Nat.le_of_ble_eq_true rfl) (co_an hEc hW hR1 hp ?_)
      refine r_iload_n dX6_say_47 rfl ?_
      refine r_callV2 dX6_say_48 lk_X6_149 (ly_5 hEc) rfl (Nat.le_of_ble_eq_true rfl) (sp_X4_heated hc (fun A2 f2 => ?_))
      refine r_rw (y := nI j) ej ?_
      have hR2 := hR1.fr f2.c
      refine r_istore_n (loc' := [(3, .int (nI j)), (0, .ref 0), (1, .int (nI p)), (2, .int (nI w))]) dX6_say_51 (by decide) rfl ?_
      refine r_aload_n dX6_say_52 rfl ?_
      refine r_getR dX6_say_53 fl_X6_10 (ly_0 hEc) rfl ?_
      refine r_iload_n dX6_say_56 rfl ?_
      refine r_iload_n dX6_say_57 rfl ?_
      refine r_callV2 dX6_say_58 lk_X6_152 (ly_1 hEc) rfl (Nat.le_of_ble_eq_true rfl) (sp_X2_hear hEc hn (hR2.1.2.2.1.trans h60) hp hu ((hR2.1.2.1 p hp).2.2.2.trans eu) ?_)
      refine r_iload_n dX6_say_61 rfl ?_
      refine r_ireturn dX6_say_62 rfl rfl ?_
      have fr : Fr [15, 16] A2 (s2 (s2 A2 15 p (nI j)) 16 p (nI (min (u + 1) 9999))) := (Fr.s2 (by decide)).tr (Fr.s2 (by decide))
      exact hk _ L (hR2.now (hs S) (fr.mo (by decide)) (by rw [s2_eq, s2_eq]; exact (hR2.1.of (q := 2) hn hp (by decide)).of (q := 3) hn hp (by decide))) (hi2 (hi2 (f526 f1) (fT38 f2)) (Fr.hi fr (by decide)))
    · skip
      refine qC.enter (by decide) (Nat.le_of_ble_eq_true rfl) ?_
      refine r_aload_n dX7_say_0 rfl ?_
      refine r_iload_n dX7_say_1 rfl ?_
      refine r_callV1 dX7_say_2 lk_X7_82 (ly_38 hE) rfl (Nat.le_of_ble_eq_true rfl) (isP_t hE hn (by rw [hR.1]; exact h60) hp ?_)
      refine r_if_eq (tgt := 17) dX7_say_5 (by decide) (fun hqz => absurd hqz (by decide)) (fun _ => ?_)
      refine r_iload_n dX7_say_8 rfl ?_
      refine r_iconst (v := 0) dX7_say_9 rfl ?_
      refine r_iconst (v := 5) dX7_say_10 rfl ?_
      refine r_callS3 dX7_say_11 lk_X7_78 (Nat.le_of_ble_eq_true rfl) (in_t (lim := 6) rfl rfl (by decide) hw ?_)
      refine r_if_ne (tgt := 20) dX7_say_14 (by decide) (fun _ => ?_) (fun hqz => absurd hqz (by decide))
      refine r_aload_n dX7_say_20 rfl ?_
      refine r_iload_n dX7_say_21 rfl ?_
      refine r_callV1 dX7_say_22 lk_X7_97 (ly_38 hE) rfl (Nat.le_of_ble_eq_true rfl) (mo_take hE hW hR hp (fun A1 f1 fm hm => ?_))
      refine r_aload_n dX7_say_25 rfl ?_
      refine r_getR dX7_say_26 fl_X7_7 (ly_38 hE) rfl ?_
      refine r_bipush (v := 40) dX7_say_29 rfl ?_
      refine r_iconst (v := 4) dX7_say_31 rfl ?_
      refine r_iload_n dX7_say_32 rfl ?_
      refine r_imul dX7_say_33 ?_
      refine r_iadd dX7_say_34 ?_
      refine r_iconst (v := 2) dX7_say_35 rfl ?_
      refine r_iadd dX7_say_36 ?_
      refine r_rw (y := nI (42 + 4 * p)) (show nI 40 + nI 4 * nI p + nI 2 = _ by rw [pk_mul, nI_add, nI_add]; congr 1; omega) ?_
      refine r_aload_n dX7_say_37 rfl ?_
      refine r_aload_n dX7_say_38 rfl ?_
      refine r_iload_n dX7_say_39 rfl ?_
      refine r_callV1 dX7_say_40 lk_X7_101 (ly_38 hE) rfl (Nat.le_of_ble_eq_true rfl) (mo_an hE hW hm.rm hp ?_)
      refine r_iload_n dX7_say_43 rfl ?_
      refine r_callV2 dX7_say_44 lk_X7_212 (ly_38 hE) rfl (Nat.le_of_ble_eq_true rfl) (sp_X7_behindWord hm (fun A2 f2 => ?_))
      refine r_rw (y := nI j) ej ?_
      have r39 : A2 39 = S 39 := (hm.f46 f2).rm.1
      refine r_iastN dX7_say_47 (ly_39 hE) (by omega) (by decide) ?_
      refine r_aload_n dX7_say_48 rfl ?_
      refine r_getR dX7_say_49 fl_X7_7 (ly_38 hE) rfl ?_
      refine r_bipush (v := 40) dX7_say_52 rfl ?_
      refine r_iconst (v := 4) dX7_say_54 rfl ?_
      refine r_iload_n dX7_say_55 rfl ?_
      refine r_imul dX7_say_56 ?_
      refine r_iadd dX7_say_57 ?_
      refine r_iconst (v := 3) dX7_say_58 rfl ?_
      refine r_iadd dX7_say_59 ?_
      refine r_rw (y := nI (43 + 4 * p)) (show nI 40 + nI 4 * nI p + nI 3 = _ by rw [pk_mul, nI_add, nI_add]; congr 1; omega) ?_
      refine r_aload_n dX7_say_60 rfl ?_
      refine r_getR dX7_say_61 fl_X7_7 (ly_38 hE) rfl ?_
      refine r_bipush (v := 40) dX7_say_64 rfl ?_
      refine r_iconst (v := 4) dX7_say_66 rfl ?_
      refine r_iload_n dX7_say_67 rfl ?_
      refine r_imul dX7_say_68 ?_
      refine r_iadd dX7_say_69 ?_
      refine r_iconst (v := 3) dX7_say_70 rfl ?_
      refine r_iadd dX7_say_71 ?_
      refine r_rw (y := nI (43 + 4 * p)) (show nI 40 + nI 4 * nI p + nI 3 = _ by rw [pk_mul, nI_add, nI_add]; congr 1; omega) ?_
      refine r_ialdN dX7_say_72 (ly_39 hE) (by omega) (by decide) ?_
      refine r_rw (y := nI u) (by rw [s2_nj (fun _ => by omega), r39]; exact eu) ?_
      refine r_iconst (v := 1) dX7_say_73 rfl ?_
      refine r_iadd dX7_say_74 ?_
      refine r_iconst (v := 0) dX7_say_75 rfl ?_
      refine r_sipush (v := 9999) dX7_say_76 rfl ?_
      refine r_callS3 dX7_say_79 lk_X7_209 (Nat.le_of_ble_eq_true rfl) (sp_X7_bound ?_)
      refine r_rw (y := nI (min (u + 1) 9999)) (told_ok hu).2 ?_
      refine r_iastN dX7_say_82 (ly_39 hE) (by omega) (by decide) ?_
      refine r_aload_n dX7_say_83 rfl ?_
      refine r_iload_n dX7_say_84 rfl ?_
      refine r_callV1 dX7_say_85 lk_X7_101 (ly_38 hE) rfl (Nat.le_of_ble_eq_true rfl) (sp_X7_anger hE hn5 ?_)
      refine r_rw (y := nI j) (by rw [s2_nj (fun _ => by omega), s2_same]) ?_
      refine r_ireturn dX7_say_88 rfl rfl ?_
      have fr : Fr [39] A2 (s2 (s2 A2 39 (42 + 4 * p) (nI j)) 39 (43 + 4 * p) (nI (min (u + 1) 9999))) := (Fr.s2 (by decide)).tr (Fr.s2 (by decide))
      exact hk _ L ((hm.f46 f2).rm.now (hs S) fr (by rw [s2_eq, s2_eq, s2_eq, s2_eq, r39])) (lo2 (fm.tr (fm46 f2)).lo (Fr.lo fr (by decide)))
  · refine ⟨.int (-2), S, T, n, z, ⟨_, rfl⟩, hW, fun A L Ph hR hk => ?_, fun A L Ph hR hk => ?_⟩
    · have K := hk A L hR (fun _ _ => rfl)
      refine qC.enter (by decide) (Nat.le_of_ble_eq_true rfl) ?_
      refine r_aload_n dX6_say_0 rfl ?_
      refine r_getR dX6_say_1 fl_X6_10 (ly_0 hEc) rfl ?_
      refine r_iload_n dX6_say_4 rfl ?_
      refine r_callV1 dX6_say_5 lk_X6_125 (ly_1 hEc) rfl (Nat.le_of_ble_eq_true rfl) (sp_X2_has hEc n hn (hR.1.2.2.1.trans h60) (fun p hp ep => ?_) (fun _ => ?_))
      · refine r_if_eq (tgt := 20) dX6_say_8 (by decide) (fun hqz => absurd hqz (by decide)) (fun _ => ?_)
        refine r_iload_n dX6_say_11 rfl ?_
        refine r_bipush (v := 6) dX6_say_12 rfl ?_
        refine r_callS2 dX6_say_14 lk_X6_100 (Nat.le_of_ble_eq_true rfl) (win_f 6 rfl (by decide) (fun m hm0 em => hb ⟨⟨p, hp, ep⟩, ⟨m, hm0, em⟩⟩) ?_)
        refine r_if_ne (tgt := 23) dX6_say_17 (by decide) (fun hqz => absurd (by decide) hqz) (fun _ => ?_)
        refine r_bipush (v := (-2)) dX6_say_20 rfl ?_
        refine r_ireturn dX6_say_22 rfl rfl ?_
        exact K
      · refine r_if_eq (tgt := 20) dX6_say_8 (by decide) (fun _ => ?_) (fun hqz => absurd (by decide) hqz)
        refine r_bipush (v := (-2)) dX6_say_20 rfl ?_
        refine r_ireturn dX6_say_22 rfl rfl ?_
        exact K
    · have K := hk A L hR (fun _ _ => rfl)
      refine qC.enter (by decide) (Nat.le_of_ble_eq_true rfl) ?_
      refine r_aload_n dX7_say_0 rfl ?_
      refine r_iload_n dX7_say_1 rfl ?_
      refine r_callV1 dX7_say_2 lk_X7_82 (ly_38 hE) rfl (Nat.le_of_ble_eq_true rfl) (sp_X7_isPair hE n hn (by rw [hR.1]; exact h60) (fun p hp ep => ?_) (fun _ => ?_))
      · refine r_if_eq (tgt := 17) dX7_say_5 (by decide) (fun hqz => absurd hqz (by decide)) (fun _ => ?_)
        refine r_iload_n dX7_say_8 rfl ?_
        refine r_iconst (v := 0) dX7_say_9 rfl ?_
        refine r_iconst (v := 5) dX7_say_10 rfl ?_
        refine r_callS3 dX7_say_11 lk_X7_78 (Nat.le_of_ble_eq_true rfl) (in_f 6 rfl rfl (by decide) (fun m hm0 em => hb ⟨⟨p, hp, ep⟩, ⟨m, hm0, em⟩⟩) ?_)
        refine r_if_ne (tgt := 20) dX7_say_14 (by decide) (fun hqz => absurd (by decide) hqz) (fun _ => ?_)
        refine r_bipush (v := (-2)) dX7_say_17 rfl ?_
        refine r_ireturn dX7_say_19 rfl rfl ?_
        exact K
      · refine r_if_eq (tgt := 17) dX7_say_5 (by decide) (fun _ => ?_) (fun hqz => absurd (by decide) hqz)
        refine r_bipush (v := (-2)) dX7_say_17 rfl ?_
        refine r_ireturn dX7_say_19 rfl rfl ?_
        exact K
set_option maxRecDepth 100000 in
set_option maxHeartbeats 4000000 in
theorem cf_loop {a0 : Int32} {m : Nat} (hm : m < 100) : ∀ (k i : Nat) (a : Int32) (A : mA), i + k = m → CE E A S T r kd nr → (∀ A', FrT A A' → Ph (some (.int (itF (bmF S r kd nr) k a))) A' L) → qG E mm_X6_cooledFor (d + 4) 5 [(4, .int (nI i)), (3, .int a), (0, .ref 0), (1, .int a0), (2, .int (nI m))] [] A L Ph := by
  intro k
  induction k with
  | zero =>
    intro i a A hi hc h
    have hE := hc.1
    have hi : i = m := by omega
    subst hi
    refine r_iload dX6_cooledFor_5 rfl ?_
    refine r_iload_n dX6_cooledFor_7 rfl ?_
    refine r_icmp_ge (tgt := 26) dX6_cooledFor_8 (by decide) (fun _ => ?_) (fun hqz => absurd (nI_le (Nat.le_refl _) (by omega)) hqz)
    refine r_iload_n dX6_cooledFor_26 rfl ?_
    refine r_ireturn dX6_cooledFor_27 rfl rfl ?_
    exact h A FrT.rf
  | succ k ih =>
    intro i a A hi hc h
    have hE := hc.1
    refine r_iload dX6_cooledFor_5 rfl ?_
    refine r_iload_n dX6_cooledFor_7 rfl ?_
    refine r_icmp_ge (tgt := 26) dX6_cooledFor_8 (by decide) (fun hqz => absurd hqz (nI_ge (show i < m by omega) (by omega))) (fun _ => ?_)
    refine r_aload_n dX6_cooledFor_11 rfl ?_
    refine r_getR dX6_cooledFor_12 fl_X6_38 (ly_0 hE) rfl ?_
    refine r_iload_n dX6_cooledFor_15 rfl ?_
    refine r_callV1 dX6_cooledFor_16 lk_X6_159 (ly_5 hE) rfl (Nat.le_of_ble_eq_true rfl) (sp_X4_cooled hc (fun A1 f1 => ?_))
    refine r_topi (fun v19 e19 => ?_)
    refine r_istore_n (loc' := [(3, .int v19), (4, .int (nI i)), (0, .ref 0), (1, .int a0), (2, .int (nI m))]) dX6_cooledFor_19 (by decide) rfl ?_
    refine r_iinc (v := (nI (i + 1))) (loc' := [(4, .int (nI (i + 1))), (3, .int v19), (0, .ref 0), (1, .int a0), (2, .int (nI m))]) dX6_cooledFor_20 rfl ((nI_succ _).symm) (by decide) rfl ?_
    refine r_goto (tgt := 5) dX6_cooledFor_23 (by decide) ?_
    refine qG.pick [0, 1, 2, 3, 4] rfl ?_
    subst e19
    exact ih (i + 1) _ A1 (by omega) (hc.fr f1) (fun A2 f2 => h A2 (f1.tr f2))
set_option maxRecDepth 100000 in
set_option maxHeartbeats 4000000 in
theorem sp_X6_cooledFor (hc : CE E A S T r kd nr) {a : Int32} {m : Nat} (hm : m < 100) (h : ∀ A', FrT A A' → Ph (some (.int (itF (bmF S r kd nr) m a))) A' L) : qC E mm_X6_cooledFor (d + 4) [.ref 0, .int a, .int (nI m)] A L Ph := by
  refine qC.enter (by decide) (Nat.le_of_ble_eq_true rfl) ?_
  refine r_iload_n dX6_cooledFor_0 rfl ?_
  refine r_istore_n (loc' := [(3, .int a), (0, .ref 0), (1, .int a), (2, .int (nI m))]) dX6_cooledFor_1 (by decide) rfl ?_
  refine r_iconst (v := 0) dX6_cooledFor_2 rfl ?_
  refine r_istore (loc' := [(4, .int 0), (3, .int a), (0, .ref 0), (1, .int a), (2, .int (nI m))]) dX6_cooledFor_3 (by decide) rfl ?_
  exact cf_loop hm m 0 a A (by omega) hc h
/-- the angers behind k minutes, the state then, how many are calm -/
def qG0 (S : mA) (k : Nat) (p : Nat) : Int32 := itF (bmP S p) k (anP S p)
def qS (S : mA) (k m : Nat) : mA := va_up S 39 (setA (S 39) (qG0 S k) m)
def calm (g : Nat → Int32) : Nat → Nat
  | 0 => 0
  | m + 1 => calm g m + (if g m = 0 then 1 else 0)
theorem calm_le (g : Nat → Int32) : ∀ m, calm g m ≤ m
  | 0 => Nat.le_refl _
  | m + 1 => by
    have := calm_le g m
    simp only [calm]
    split <;> omega
theorem calm_f {g : Nat → Int32} {m : Nat} (h : ¬ g m = 0) : calm g (m + 1) = calm g m := by rw [calm, if_neg h]; rfl
theorem it_ok {f : Int32 → Int32} (hf : ∀ a, ∃ j, j < 100 ∧ f a = nI j) : ∀ (k : Nat) (a : Int32), (∃ j, j < 100 ∧ a = nI j) → ∃ j, j < 100 ∧ itF f k a = nI j
  | 0, _, h => h
  | k + 1, a, _ => it_ok hf k (f a) (hf a)
theorem q_ok (hW : WfS S T n z) (k : Nat) (hp : p < n) : ∃ j, j < 100 ∧ qG0 S k p = nI j := it_ok (fun a => bm_ok a) k _ (anP_ok hW hp)
theorem qS_wf (hW : WfS S T n z) (k m : Nat) (hm : m ≤ n) : WfS (qS S k m) T n z := hW.now (fun q h => va_up_no h) (by rw [qS, va_up_eq]; exact hW.2.2.2.2.1.setA hm (fun p hp => q_ok hW k (by omega)))
theorem qS_0 : qS S 0 n = S := by
  unfold qS
  rw [show qG0 S 0 = fun p => S 39 (42 + 4 * p) from rfl, setA_self, up_self]
theorem qS_m0 {k : Nat} : qS S k 0 = S := by
  unfold qS
  rw [setA_0, up_self]
theorem qS_an {k m : Nat} (h : m ≤ p) : anP (qS S k m) p = anP S p := by
  unfold anP qS
  rw [va_up_eq, setA_no (by omega)]
theorem qS_bm {k m : Nat} (hm : m ≤ 5) (a : Int32) : bmP (qS S k m) p a = bmP S p a := bmP_setA hm a
theorem qS_it {k m j : Nat} (hm : m ≤ 5) (a : Int32) : itF (bmP (qS S k m) p) j a = itF (bmP S p) j a := by
  rw [show bmP (qS S k m) p = bmP S p from funext (fun a => qS_bm hm a)]
theorem qS_up {X : mA} {k m : Nat} (h39 : X 39 = (qS S k m) 39) : upd (X 39) (42 + 4 * m) (qG0 S k m) = (qS S k (m + 1)) 39 := by
  rw [h39]
  unfold qS
  rw [va_up_eq, va_up_eq, setA_succ]
set_option maxRecDepth 100000 in
set_option maxHeartbeats 4000000 in
theorem cq_loop (hE : hC E) (hW : WfS S T n z) {m : Nat} (hm : m < 100) : ∀ (k i : Nat) (A : mA), i + k = n → RC A (qS S m i) T n z → (∀ A', RC A' (qS S m n) T n z → (∀ k, 38 ≤ k → A' k = A k) → Ph (some (.int (nI (calm (qG0 S m) n)))) A' L) → qG E mm_X6_quiet (d + 5) 16 [(3, .int (nI i)), (2, .int (nI (calm (qG0 S m) i))), (0, .ref 0), (1, .int (nI m))] [] A L Ph := by
  have hn := hW.2.2.2.2.1.1
  intro k
  induction k with
  | zero =>
    intro i A hi hR h
    have hi : i = n := by omega
    subst hi
    have h5 : A 1 5 = nI i := hR.1.2.2.1.trans (qS_wf hW m i (Nat.le_refl _)).2.2.2.2.1.2.1
    refine r_iload_n dX6_quiet_16 rfl ?_
    refine r_aload_n dX6_quiet_17 rfl ?_
    refine r_getR dX6_quiet_18 fl_X6_10 (ly_0 hE) rfl ?_
    refine r_getI dX6_quiet_21 fl_X6_93 (ly_1 hE) rfl ?_
    refine r_rw (y := nI i) h5 ?_
    refine r_icmp_ge (tgt := 88) dX6_quiet_24 (by decide) (fun _ => ?_) (fun hqz => absurd (nI_le (Nat.le_refl _) (by omega)) hqz)
    refine r_iload_n dX6_quiet_88 rfl ?_
    refine r_ireturn dX6_quiet_89 rfl rfl ?_
    exact h A hR (fun _ _ => rfl)
  | succ k ih =>
    intro i A hi hR h
    have hp : i < n := by omega
    have hWi := qS_wf hW m i (by omega)
    have h5 : A 1 5 = nI n := hR.1.2.2.1.trans hWi.2.2.2.2.1.2.1
    refine r_iload_n dX6_quiet_16 rfl ?_
    refine r_aload_n dX6_quiet_17 rfl ?_
    refine r_getR dX6_quiet_18 fl_X6_10 (ly_0 hE) rfl ?_
    refine r_getI dX6_quiet_21 fl_X6_93 (ly_1 hE) rfl ?_
    refine r_rw (y := nI n) h5 ?_
    refine r_icmp_ge (tgt := 88) dX6_quiet_24 (by decide) (fun hqz => absurd hqz (nI_ge hp (by omega))) (fun _ => ?_)
    refine r_iload_n dX6_quiet_27 rfl ?_
    refine r_iconst (v := 5) dX6_quiet_28 rfl ?_
    refine r_icmp_ge (tgt := 88) dX6_quiet_29 (by decide) (fun hqz => absurd hqz (nI_ge (show i < 5 by omega) (by decide))) (fun _ => ?_)
    refine r_aload_n dX6_quiet_32 rfl ?_
    refine r_getR dX6_quiet_33 fl_X6_38 (ly_0 hE) rfl ?_
    refine r_aload_n dX6_quiet_36 rfl ?_
    refine r_getR dX6_quiet_37 fl_X6_10 (ly_0 hE) rfl ?_
    refine r_iload_n dX6_quiet_40 rfl ?_
    refine r_callV2 dX6_quiet_41 lk_X6_128 (ly_5 hE) rfl (Nat.le_of_ble_eq_true rfl) (co_of hE hWi hR hp (fun A1 f1 hc hR1 => ?_))
    refine r_aload_n dX6_quiet_44 rfl ?_
    refine r_getR dX6_quiet_45 fl_X6_10 (ly_0 hE) rfl ?_
    refine r_getR dX6_quiet_48 fl_X6_97 (ly_1 hE) rfl ?_
    refine r_iload_n dX6_quiet_51 rfl ?_
    refine r_aload_n dX6_quiet_52 rfl ?_
    refine r_aload_n dX6_quiet_53 rfl ?_
    refine r_getR dX6_quiet_54 fl_X6_10 (ly_0 hE) rfl ?_
    refine r_getR dX6_quiet_57 fl_X6_97 (ly_1 hE) rfl ?_
    refine r_iload_n dX6_quiet_60 rfl ?_
    refine r_ialdN dX6_quiet_61 (ly_15 hE) (by omega) (by decide) ?_
    refine r_rw (y := anP (qS S m i) i) (hR1.1.2.1 i hp).2.2.1 ?_
    refine r_iload_n dX6_quiet_62 rfl ?_
    refine r_callV2 dX6_quiet_63 lk_X6_156 (ly_0 hE) rfl (Nat.le_of_ble_eq_true rfl) (sp_X6_cooledFor hc hm (fun A2 f2 => ?_))
    refine r_rw (y := qG0 S m i) (show itF (bmP (qS S m i) i) m (anP (qS S m i) i) = _ by rw [qS_it (by omega), qS_an (Nat.le_refl _)]; rfl) ?_
    have hR2 := hR1.fr f2.c
    refine r_iastN dX6_quiet_66 (ly_15 hE) (by omega) (by decide) ?_
    have fr : Fr [15] A2 (s2 A2 15 i (qG0 S m i)) := Fr.s2 (by decide)
    have hR3 : RC (s2 A2 15 i (qG0 S m i)) (qS S m (i + 1)) T n z := hR2.now (fun q hq => by unfold qS; rw [va_up_no hq, va_up_no hq]) (fr.mo (by decide)) (by rw [← qS_up (X := qS S m i) rfl]; exact hR2.1.of (q := 2) hn hp (by decide))
    refine r_aload_n dX6_quiet_67 rfl ?_
    refine r_getR dX6_quiet_68 fl_X6_10 (ly_0 hE) rfl ?_
    refine r_getR dX6_quiet_71 fl_X6_97 (ly_1 hE) rfl ?_
    refine r_iload_n dX6_quiet_74 rfl ?_
    refine r_ialdN dX6_quiet_75 (ly_15 hE) (by omega) (by decide) ?_
    refine r_rw (y := qG0 S m i) s2_same ?_
    refine r_if_ne (tgt := 82) dX6_quiet_76 (by decide) (fun b76 => ?_) (fun b76 => ?_)
    · refine r_iinc (v := (nI (i + 1))) (loc' := [(3, .int (nI (i + 1))), (2, .int (nI (calm (qG0 S m) i))), (0, .ref 0), (1, .int (nI m))]) dX6_quiet_82 rfl ((nI_succ _).symm) (by decide) rfl ?_
      refine r_goto (tgt := 16) dX6_quiet_85 (by decide) ?_
      refine qG.pick [0, 1, 2, 3] rfl ?_
      first | (rw [← calm_f b76]; exact ih (i + 1) _ (by omega) hR3 (fun A4 a b => h A4 a (hi2 (hi2 (hi2 (f526 f1) (fT38 f2)) (Fr.hi fr (by decide))) b))) | exact ih (i + 1) _ (by omega) hR3 (fun A4 a b => h A4 a (hi2 (hi2 (hi2 (f526 f1) (fT38 f2)) (Fr.hi fr (by decide))) b))
    · refine r_iinc (v := (nI (calm (qG0 S m) (i + 1)))) (loc' := [(2, .int (nI (calm (qG0 S m) (i + 1)))), (3, .int (nI i)), (0, .ref 0), (1, .int (nI m))]) dX6_quiet_79 rfl ((show nI (calm (qG0 S m) i) + nI 1 = _ by rw [nI_add, calm, if_pos b76])) (by decide) rfl ?_
      refine r_iinc (v := (nI (i + 1))) (loc' := [(3, .int (nI (i + 1))), (2, .int (nI (calm (qG0 S m) (i + 1)))), (0, .ref 0), (1, .int (nI m))]) dX6_quiet_82 rfl ((nI_succ _).symm) (by decide) rfl ?_
      refine r_goto (tgt := 16) dX6_quiet_85 (by decide) ?_
      refine qG.pick [0, 1, 2, 3] rfl ?_
      first | (rw [← calm_f b76]; exact ih (i + 1) _ (by omega) hR3 (fun A4 a b => h A4 a (hi2 (hi2 (hi2 (f526 f1) (fT38 f2)) (Fr.hi fr (by decide))) b))) | exact ih (i + 1) _ (by omega) hR3 (fun A4 a b => h A4 a (hi2 (hi2 (hi2 (f526 f1) (fT38 f2)) (Fr.hi fr (by decide))) b))
end OPS7
