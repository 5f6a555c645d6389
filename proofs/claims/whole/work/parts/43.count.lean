/-! count, taken -/
def tsm (g : Nat → Int32) : Nat → Int32
  | 0 => 0
  | i + 1 => tsm g i + g i
section OPS10
variable {E : mE} {d : Nat} {A S : mA} {L : mJ} {Ph : mP} {T n z p r : Nat} {kd nr : Int32}
set_option maxRecDepth 100000 in
set_option maxHeartbeats 4000000 in
theorem toa_loop (hE : hC E) {g : Nat → Int32} (hn : n ≤ 5) (h5 : A 1 5 = nI n) (hg : ∀ p, p < n → A 16 p = g p) (h : Ph (some (.int (tsm g n))) A L) : ∀ (k i : Nat), i + k = n → qG E mm_X2_toldOfAll d 4 [(2, .int (nI i)), (1, .int (tsm g i)), (0, .ref 1)] [] A L Ph := by
  intro k
  induction k with
  | zero =>
    intro i hi
    have hi : i = n := by omega
    subst hi
    refine r_iload_n dX2_toldOfAll_4 rfl ?_
    refine r_aload_n dX2_toldOfAll_5 rfl ?_
    refine r_getI dX2_toldOfAll_6 fl_X2_33 (ly_1 hE) rfl ?_
    refine r_rw (y := nI i) h5 ?_
    refine r_icmp_ge (tgt := 32) dX2_toldOfAll_9 (by decide) (fun _ => ?_) (fun hqz => absurd (nI_le (Nat.le_refl _) (by omega)) hqz)
    refine r_iload_n dX2_toldOfAll_32 rfl ?_
    refine r_ireturn dX2_toldOfAll_33 rfl rfl ?_
    exact h
  | succ k ih =>
    intro i hi
    refine r_iload_n dX2_toldOfAll_4 rfl ?_
    refine r_aload_n dX2_toldOfAll_5 rfl ?_
    refine r_getI dX2_toldOfAll_6 fl_X2_33 (ly_1 hE) rfl ?_
    refine r_rw (y := nI n) h5 ?_
    refine r_icmp_ge (tgt := 32) dX2_toldOfAll_9 (by decide) (fun hqz => absurd hqz (nI_ge (show i < n by omega) (by omega))) (fun _ => ?_)
    refine r_iload_n dX2_toldOfAll_12 rfl ?_
    refine r_iconst (v := 5) dX2_toldOfAll_13 rfl ?_
    refine r_icmp_ge (tgt := 32) dX2_toldOfAll_14 (by decide) (fun hqz => absurd hqz (nI_ge (show i < 5 by omega) (by decide))) (fun _ => ?_)
    refine r_iload_n dX2_toldOfAll_17 rfl ?_
    refine r_aload_n dX2_toldOfAll_18 rfl ?_
    refine r_getR dX2_toldOfAll_19 fl_X2_24 (ly_1 hE) rfl ?_
    refine r_iload_n dX2_toldOfAll_22 rfl ?_
    refine r_ialdN dX2_toldOfAll_23 (ly_16 hE) (by omega) (by decide) ?_
    refine r_rw (y := g i) (hg i (by omega)) ?_
    refine r_iadd dX2_toldOfAll_24 ?_
    refine r_rw (y := tsm g (i + 1)) rfl ?_
    generalize ex : tsm g (i + 1) = vx
    refine r_istore_n (loc' := [(1, .int vx), (2, .int (nI i)), (0, .ref 1)]) dX2_toldOfAll_25 (by decide) rfl ?_
    refine r_iinc (v := (nI (i + 1))) (loc' := [(2, .int (nI (i + 1))), (1, .int vx), (0, .ref 1)]) dX2_toldOfAll_26 rfl ((nI_succ _).symm) (by decide) rfl ?_
    refine r_goto (tgt := 4) dX2_toldOfAll_29 (by decide) ?_
    refine qG.pick [0, 1, 2] rfl ?_
    subst ex
    exact ih (i + 1) (by omega)
set_option maxRecDepth 100000 in
set_option maxHeartbeats 4000000 in
theorem sp_X2_toldOfAll (hE : hC E) {g : Nat → Int32} (hn : n ≤ 5) (h5 : A 1 5 = nI n) (hg : ∀ p, p < n → A 16 p = g p) (h : Ph (some (.int (tsm g n))) A L) : qC E mm_X2_toldOfAll d [.ref 1] A L Ph := by
  refine qC.enter (by decide) (Nat.le_of_ble_eq_true rfl) ?_
  refine r_iconst (v := 0) dX2_toldOfAll_0 rfl ?_
  refine r_istore_n (loc' := [(1, .int 0), (0, .ref 1)]) dX2_toldOfAll_1 (by decide) rfl ?_
  refine r_iconst (v := 0) dX2_toldOfAll_2 rfl ?_
  refine r_istore_n (loc' := [(2, .int 0), (1, .int 0), (0, .ref 1)]) dX2_toldOfAll_3 (by decide) rfl ?_
  exact toa_loop hE hn h5 hg h n 0 (by omega)
set_option maxRecDepth 100000 in
set_option maxHeartbeats 4000000 in
theorem mct_loop (hE : hM E) {g : Nat → Int32} {x : Int32} (hn : n ≤ 5) (h6 : A 39 60 = nI n) (hg : ∀ p, p < n → A 39 (43 + 4 * p) = g p) (h : qG E mm_X7_count (d + 1) 34 [(3, .int (nI n)), (2, .int (tsm g n)), (0, .ref 38), (1, .int x)] [] A L Ph) : ∀ (k i : Nat), i + k = n → qG E mm_X7_count (d + 1) 4 [(3, .int (nI i)), (2, .int (tsm g i)), (0, .ref 38), (1, .int x)] [] A L Ph := by
  intro k
  induction k with
  | zero =>
    intro i hi
    have hi : i = n := by omega
    subst hi
    refine r_iload_n dX7_count_4 rfl ?_
    refine r_aload_n dX7_count_5 rfl ?_
    refine r_callV0 dX7_count_6 lk_X7_94 (ly_38 hE) rfl (Nat.le_of_ble_eq_true rfl) (sp_X7_many hE ?_)
    refine r_rw (y := nI i) h6 ?_
    refine r_icmp_ge (tgt := 34) dX7_count_9 (by decide) (fun _ => ?_) (fun hqz => absurd (nI_le (Nat.le_refl _) (by omega)) hqz)
    exact h
  | succ k ih =>
    intro i hi
    refine r_iload_n dX7_count_4 rfl ?_
    refine r_aload_n dX7_count_5 rfl ?_
    refine r_callV0 dX7_count_6 lk_X7_94 (ly_38 hE) rfl (Nat.le_of_ble_eq_true rfl) (sp_X7_many hE ?_)
    refine r_rw (y := nI n) h6 ?_
    refine r_icmp_ge (tgt := 34) dX7_count_9 (by decide) (fun hqz => absurd hqz (nI_ge (show i < n by omega) (by omega))) (fun _ => ?_)
    refine r_iload_n dX7_count_12 rfl ?_
    refine r_aload_n dX7_count_13 rfl ?_
    refine r_getR dX7_count_14 fl_X7_7 (ly_38 hE) rfl ?_
    refine r_bipush (v := 40) dX7_count_17 rfl ?_
    refine r_iconst (v := 4) dX7_count_19 rfl ?_
    refine r_iload_n dX7_count_20 rfl ?_
    refine r_imul dX7_count_21 ?_
    refine r_iadd dX7_count_22 ?_
    refine r_iconst (v := 3) dX7_count_23 rfl ?_
    refine r_iadd dX7_count_24 ?_
    refine r_rw (y := nI (43 + 4 * i)) (show nI 40 + nI 4 * nI i + nI 3 = _ by rw [pk_mul, nI_add, nI_add]; congr 1; omega) ?_
    refine r_ialdN dX7_count_25 (ly_39 hE) (by omega) (by decide) ?_
    refine r_rw (y := g i) (hg i (by omega)) ?_
    refine r_iadd dX7_count_26 ?_
    refine r_rw (y := tsm g (i + 1)) rfl ?_
    generalize ex : tsm g (i + 1) = vx
    refine r_istore_n (loc' := [(2, .int vx), (3, .int (nI i)), (0, .ref 38), (1, .int x)]) dX7_count_27 (by decide) rfl ?_
    refine r_iinc (v := (nI (i + 1))) (loc' := [(3, .int (nI (i + 1))), (2, .int vx), (0, .ref 38), (1, .int x)]) dX7_count_28 rfl ((nI_succ _).symm) (by decide) rfl ?_
    refine r_goto (tgt := 4) dX7_count_31 (by decide) ?_
    refine qG.pick [0, 1, 2, 3] rfl ?_
    subst ex
    exact ih (i + 1) (by omega)
set_option maxRecDepth 100000 in
set_option maxHeartbeats 4000000 in
theorem op_count (hE : hM E) (hW : WfS S T n z) (x : Int32) : OpOK E (d + 1) mm_X6_count mm_X7_count [.int x] S T n z := by
  have hEc := hE.c
  have hN := hW.2.2.2.2.1
  have hn := hN.1
  have h60 := hN.2.1
  have go : ∀ (v : Int32), (∀ (A : mA) (L : mJ) (Ph : mP), RC A S T n z → Ph (some (.int v)) A L → qC E mm_X6_count (d + 1) [.ref 0, .int x] A L Ph) → (∀ (A : mA) (L : mJ) (Ph : mP) (g : Nat → Int32), g = (fun p => S 39 (43 + 4 * p)) → RM A S T → Ph (some (.int v)) A L → qG E mm_X7_count (d + 1) 34 [(3, .int (nI n)), (2, .int (tsm g n)), (0, .ref 38), (1, .int x)] [] A L Ph) → OpOK E (d + 1) mm_X6_count mm_X7_count [.int x] S T n z := by
    intro v hc hm
    refine ⟨.int v, S, T, n, z, ⟨_, rfl⟩, hW, fun A L Ph hR hk => hc A L Ph hR (hk A L hR (fun _ _ => rfl)), fun A L Ph hR hk => ?_⟩
    have h6 : A 39 60 = nI n := by rw [hR.1]; exact h60
    have J := mct_loop (d := d) (x := x) hE hn h6 (g := fun p => S 39 (43 + 4 * p)) (fun p _ => by rw [hR.1]) (hm A L Ph _ rfl hR (hk A L hR (fun _ _ => rfl))) n 0 (by omega)
    refine qC.enter (by decide) (Nat.le_of_ble_eq_true rfl) ?_
    refine r_iconst (v := 0) dX7_count_0 rfl ?_
    refine r_istore_n (loc' := [(2, .int 0), (0, .ref 38), (1, .int x)]) dX7_count_1 (by decide) rfl ?_
    refine r_iconst (v := 0) dX7_count_2 rfl ?_
    refine r_istore_n (loc' := [(3, .int 0), (2, .int 0), (0, .ref 38), (1, .int x)]) dX7_count_3 (by decide) rfl ?_
    exact J
  by_cases w0 : x = 0
  · subst w0
    refine go (nI n) (fun A L Ph hR K => ?_) (fun A L Ph g hg hR K => ?_)
    · skip
      refine qC.enter (by decide) (Nat.le_of_ble_eq_true rfl) ?_
      refine r_iload_n dX6_count_0 rfl ?_
      refine r_tableIn (off := 39) (tgt := 40) dX6_count_1 (by decide) (by decide) rfl (by decide) ?_
      refine r_aload_n dX6_count_40 rfl ?_
      refine r_getR dX6_count_41 fl_X6_10 (ly_0 hEc) rfl ?_
      refine r_getI dX6_count_44 fl_X6_93 (ly_1 hEc) rfl ?_
      refine r_rw (y := nI n) (hR.1.2.2.1.trans h60) ?_
      refine r_ireturn dX6_count_47 rfl rfl ?_
      exact K
    · skip
      refine r_iload_n dX7_count_34 rfl ?_
      refine r_tableIn (off := 37) (tgt := 72) dX7_count_35 (by decide) (by decide) rfl (by decide) ?_
      refine r_aload_n dX7_count_72 rfl ?_
      refine r_callV0 dX7_count_73 lk_X7_94 (ly_38 hE) rfl (Nat.le_of_ble_eq_true rfl) (sp_X7_many hE ?_)
      refine r_rw (y := nI n) (by rw [hR.1]; exact h60) ?_
      refine r_ireturn dX7_count_76 rfl rfl ?_
      exact K
  by_cases w1 : x = 1
  · subst w1
    refine go (nI (cnz (S 39) 40)) (fun A L Ph hR K => ?_) (fun A L Ph g hg hR K => ?_)
    · skip
      refine qC.enter (by decide) (Nat.le_of_ble_eq_true rfl) ?_
      refine r_iload_n dX6_count_0 rfl ?_
      refine r_tableIn (off := 47) (tgt := 48) dX6_count_1 (by decide) (by decide) rfl (by decide) ?_
      refine r_aload_n dX6_count_48 rfl ?_
      refine r_getR dX6_count_49 fl_X6_10 (ly_0 hEc) rfl ?_
      refine r_callV0 dX6_count_52 lk_X6_169 (ly_1 hEc) rfl (Nat.le_of_ble_eq_true rfl) (sp_X2_milesWithThing hEc ?_)
      refine r_callS1 dX6_count_55 lk_X6_173 (Nat.le_of_ble_eq_true rfl) (sp_J13_bitCount _ rfl ?_)
      refine r_rw (y := nI (cnz (S 39) 40)) (by rw [cnz_cong hR.1.1]) ?_
      refine r_ireturn dX6_count_58 rfl rfl ?_
      exact K
    · skip
      refine r_iload_n dX7_count_34 rfl ?_
      refine r_tableIn (off := 42) (tgt := 77) dX7_count_35 (by decide) (by decide) rfl (by decide) ?_
      refine r_aload_n dX7_count_77 rfl ?_
      refine r_callV0 dX7_count_78 lk_X7_203 (ly_38 hE) rfl (Nat.le_of_ble_eq_true rfl) (sp_X7_things hE ?_)
      refine r_rw (y := nI (cnz (S 39) 40)) (by rw [hR.1]) ?_
      refine r_ireturn dX7_count_81 rfl rfl ?_
      exact K
  by_cases w2 : x = 2
  · subst w2
    refine go (tsm (fun p => S 39 (43 + 4 * p)) n) (fun A L Ph hR K => ?_) (fun A L Ph g hg hR K => ?_)
    · skip
      refine qC.enter (by decide) (Nat.le_of_ble_eq_true rfl) ?_
      refine r_iload_n dX6_count_0 rfl ?_
      refine r_tableIn (off := 58) (tgt := 59) dX6_count_1 (by decide) (by decide) rfl (by decide) ?_
      refine r_aload_n dX6_count_59 rfl ?_
      refine r_getR dX6_count_60 fl_X6_10 (ly_0 hEc) rfl ?_
      refine r_callV0 dX6_count_63 lk_X6_304 (ly_1 hEc) rfl (Nat.le_of_ble_eq_true rfl) (sp_X2_toldOfAll hEc hn (hR.1.2.2.1.trans h60) (fun p hp => (hR.1.2.1 p hp).2.2.2) ?_)
      refine r_ireturn dX6_count_66 rfl rfl ?_
      exact K
    · subst hg
      refine r_iload_n dX7_count_34 rfl ?_
      refine r_tableIn (off := 47) (tgt := 82) dX7_count_35 (by decide) (by decide) rfl (by decide) ?_
      refine r_iload_n dX7_count_82 rfl ?_
      refine r_ireturn dX7_count_83 rfl rfl ?_
      exact K
  by_cases w3 : x = 3
  · subst w3
    refine go (S 38 11) (fun A L Ph hR K => ?_) (fun A L Ph g hg hR K => ?_)
    · skip
      refine qC.enter (by decide) (Nat.le_of_ble_eq_true rfl) ?_
      refine r_iload_n dX6_count_0 rfl ?_
      refine r_tableIn (off := 66) (tgt := 67) dX6_count_1 (by decide) (by decide) rfl (by decide) ?_
      refine r_aload_n dX6_count_67 rfl ?_
      refine r_getR dX6_count_68 fl_X6_22 (ly_0 hEc) rfl ?_
      refine r_getI dX6_count_71 fl_X6_145 (ly_3 hEc) rfl ?_
      refine r_rw (y := S 38 11) hR.2.2.2.1.1 ?_
      refine r_ireturn dX6_count_74 rfl rfl ?_
      exact K
    · skip
      refine r_iload_n dX7_count_34 rfl ?_
      refine r_tableIn (off := 49) (tgt := 84) dX7_count_35 (by decide) (by decide) rfl (by decide) ?_
      refine r_aload_n dX7_count_84 rfl ?_
      refine r_getI dX7_count_85 fl_X7_29 (ly_38 hE) rfl ?_
      refine r_rw (y := S 38 11) hR.2.2.2.2.1 ?_
      refine r_ireturn dX7_count_88 rfl rfl ?_
      exact K
  by_cases w4 : x = 4
  · subst w4
    refine go (S 38 4) (fun A L Ph hR K => ?_) (fun A L Ph g hg hR K => ?_)
    · skip
      refine qC.enter (by decide) (Nat.le_of_ble_eq_true rfl) ?_
      refine r_iload_n dX6_count_0 rfl ?_
      refine r_tableIn (off := 74) (tgt := 75) dX6_count_1 (by decide) (by decide) rfl (by decide) ?_
      refine r_aload_n dX6_count_75 rfl ?_
      refine r_getR dX6_count_76 fl_X6_31 (ly_0 hEc) rfl ?_
      refine r_getI dX6_count_79 fl_X6_144 (ly_4 hEc) rfl ?_
      refine r_rw (y := S 38 4) hR.2.2.2.2.1.1 ?_
      refine r_ireturn dX6_count_82 rfl rfl ?_
      exact K
    · skip
      refine r_iload_n dX7_count_34 rfl ?_
      refine r_tableIn (off := 54) (tgt := 89) dX7_count_35 (by decide) (by decide) rfl (by decide) ?_
      refine r_aload_n dX7_count_89 rfl ?_
      refine r_getI dX7_count_90 fl_X7_119 (ly_38 hE) rfl ?_
      refine r_rw (y := S 38 4) hR.2.2.2.1 ?_
      refine r_ireturn dX7_count_93 rfl rfl ?_
      exact K
  by_cases w5 : x = 5
  · subst w5
    refine go (S 39 62) (fun A L Ph hR K => ?_) (fun A L Ph g hg hR K => ?_)
    · skip
      refine qC.enter (by decide) (Nat.le_of_ble_eq_true rfl) ?_
      refine r_iload_n dX6_count_0 rfl ?_
      refine r_tableIn (off := 82) (tgt := 83) dX6_count_1 (by decide) (by decide) rfl (by decide) ?_
      refine r_aload_n dX6_count_83 rfl ?_
      refine r_getR dX6_count_84 fl_X6_10 (ly_0 hEc) rfl ?_
      refine r_getI dX6_count_87 fl_X6_146 (ly_1 hEc) rfl ?_
      refine r_rw (y := S 39 62) hR.1.2.2.2.2 ?_
      refine r_ireturn dX6_count_90 rfl rfl ?_
      exact K
    · skip
      refine r_iload_n dX7_count_34 rfl ?_
      refine r_tableIn (off := 59) (tgt := 94) dX7_count_35 (by decide) (by decide) rfl (by decide) ?_
      refine r_aload_n dX7_count_94 rfl ?_
      refine r_getR dX7_count_95 fl_X7_7 (ly_38 hE) rfl ?_
      refine r_bipush (v := (nI 62)) dX7_count_98 rfl ?_
      refine r_ialdN dX7_count_100 (ly_39 hE) (by decide) (by decide) ?_
      refine r_rw (y := S 39 62) (by rw [hR.1]) ?_
      refine r_ireturn dX7_count_101 rfl rfl ?_
      exact K
  refine go (-2) (fun A L Ph hR K => ?_) (fun A L Ph g hg hR K => ?_)
  · skip
    refine qC.enter (by decide) (Nat.le_of_ble_eq_true rfl) ?_
    refine r_iload_n dX6_count_0 rfl ?_
    refine r_tableOut (tgt := 91) dX6_count_1 (sw_0_5 w0 w1 w2 w3 w4 w5) (by decide) ?_
    refine r_bipush (v := (-2)) dX6_count_91 rfl ?_
    refine r_ireturn dX6_count_93 rfl rfl ?_
    exact K
  · skip
    refine r_iload_n dX7_count_34 rfl ?_
    refine r_tableOut (tgt := 102) dX7_count_35 (sw_0_5 w0 w1 w2 w3 w4 w5) (by decide) ?_
    refine r_bipush (v := (-2)) dX7_count_102 rfl ?_
    refine r_ireturn dX7_count_104 rfl rfl ?_
    exact K
/-- whether kind kk is k, or under it -/
def undF (kk k : Nat) : Bool := kk == k || (kk == 1 && k == 0) || (kk == 2 && k == 0) || (kk == 3 && (k == 1 || k == 0)) || (kk == 4 && (k == 2 || k == 0)) || (kk == 5 && k == 0)
theorem n1_no : ∀ j, j < 6 → (-1 : Int32) ≠ nI j := by decide
theorem undT : ∀ kk, kk < 6 → ∀ k, k < 6 → (nI kk = nI k → undF kk k = true) := by decide
theorem kk_ne {a b : Nat} (ha : a < 6) (hb : b < 6) (h : ¬ nI a = nI b) : a ≠ b := fun e => h (by rw [e])
set_option maxRecDepth 100000 in
set_option maxHeartbeats 4000000 in
theorem sp_X6_isUnder {kk k : Nat} (h1 : kk < 6) (h2 : k < 6) (hT : undF kk k = true → Ph (some (.int 1)) A L) (hF : undF kk k = false → Ph (some (.int 0)) A L) : qC E mm_X6_isUnder (d + 1) [.int (nI kk), .int (nI k)] A L Ph := by
  refine qC.enter (by decide) (Nat.le_of_ble_eq_true rfl) ?_
  rcases (show kk = 0 ∨ kk = 1 ∨ kk = 2 ∨ kk = 3 ∨ kk = 4 ∨ kk = 5 by omega) with rfl | rfl | rfl | rfl | rfl | rfl
  · show qG E mm_X6_isUnder (d + 1) 0 [(0, .int 0), (1, .int (nI k))] [] A L Ph
    refine r_iload_n dX6_isUnder_0 rfl ?_
    refine r_istore_n (loc' := [(2, .int 0), (0, .int 0), (1, .int (nI k))]) dX6_isUnder_1 (by decide) rfl ?_
    refine r_iconst (v := 0) dX6_isUnder_2 rfl ?_
    refine r_istore_n (loc' := [(3, .int 0), (2, .int 0), (0, .int 0), (1, .int (nI k))]) dX6_isUnder_3 (by decide) rfl ?_
    refine r_iload_n dX6_isUnder_4 rfl ?_
    refine r_bipush (v := 6) dX6_isUnder_5 rfl ?_
    refine r_icmp_ge (tgt := 38) dX6_isUnder_7 (by decide) (fun hqz => absurd hqz (by decide)) (fun _ => ?_)
    refine r_iload_n dX6_isUnder_10 rfl ?_
    refine r_bipush (v := 6) dX6_isUnder_11 rfl ?_
    refine r_callS2 dX6_isUnder_13 lk_X6_100 (Nat.le_of_ble_eq_true rfl) (win_t (j := 0) (lim := 6) rfl (by decide) (by decide) ?_)
    refine r_if_eq (tgt := 38) dX6_isUnder_16 (by decide) (fun hqz => absurd hqz (by decide)) (fun _ => ?_)
    refine r_iload_n dX6_isUnder_19 rfl ?_
    refine r_iload_n dX6_isUnder_20 rfl ?_
    refine r_icmp_ne (tgt := 26) dX6_isUnder_21 (by decide) (fun b21 => ?_) (fun b21 => ?_)
    · refine r_gsAb dX6_isUnder_26 rfl ?_
      refine r_iload_n dX6_isUnder_29 rfl ?_
      refine r_rw (y := nI 0) rfl ?_
      refine r_abld dX6_isUnder_30 (by decide) ?_
      refine r_rw (y := (-1)) rfl ?_
      refine r_istore_n (loc' := [(2, .int (-1)), (3, .int 0), (0, .int 0), (1, .int (nI k))]) dX6_isUnder_31 (by decide) rfl ?_
      refine r_iinc (v := 1) (loc' := [(3, .int 1), (2, .int (-1)), (0, .int 0), (1, .int (nI k))]) dX6_isUnder_32 rfl (rfl) (by decide) rfl ?_
      refine r_goto (tgt := 4) dX6_isUnder_35 (by decide) ?_
      refine r_iload_n dX6_isUnder_4 rfl ?_
      refine r_bipush (v := 6) dX6_isUnder_5 rfl ?_
      refine r_icmp_ge (tgt := 38) dX6_isUnder_7 (by decide) (fun hqz => absurd hqz (by decide)) (fun _ => ?_)
      refine r_iload_n dX6_isUnder_10 rfl ?_
      refine r_bipush (v := 6) dX6_isUnder_11 rfl ?_
      refine r_callS2 dX6_isUnder_13 lk_X6_100 (Nat.le_of_ble_eq_true rfl) (win_f 6 rfl (by decide) n1_no ?_)
      refine r_if_eq (tgt := 38) dX6_isUnder_16 (by decide) (fun _ => ?_) (fun hqz => absurd (by decide) hqz)
      refine r_iconst (v := 0) dX6_isUnder_38 rfl ?_
      refine r_ireturn dX6_isUnder_39 rfl (by decide) ?_
      rcases (show k = 0 ∨ k = 1 ∨ k = 2 ∨ k = 3 ∨ k = 4 ∨ k = 5 by omega) with rfl | rfl | rfl | rfl | rfl | rfl <;> first | exact hT (by decide) | exact hF (by decide) | exact absurd rfl b21 | exact absurd rfl b21_1 | exact absurd rfl b21_2 | exact absurd b21 (by decide) | exact absurd b21_1 (by decide) | exact absurd b21_2 (by decide)
    · refine r_iconst (v := 1) dX6_isUnder_24 rfl ?_
      refine r_ireturn dX6_isUnder_25 rfl (by decide) ?_
      rcases (show k = 0 ∨ k = 1 ∨ k = 2 ∨ k = 3 ∨ k = 4 ∨ k = 5 by omega) with rfl | rfl | rfl | rfl | rfl | rfl <;> first | exact hT (by decide) | exact hF (by decide) | exact absurd rfl b21 | exact absurd rfl b21_1 | exact absurd rfl b21_2 | exact absurd b21 (by decide) | exact absurd b21_1 (by decide) | exact absurd b21_2 (by decide)
  · show qG E mm_X6_isUnder (d + 1) 0 [(0, .int 1), (1, .int (nI k))] [] A L Ph
    refine r_iload_n dX6_isUnder_0 rfl ?_
    refine r_istore_n (loc' := [(2, .int 1), (0, .int 1), (1, .int (nI k))]) dX6_isUnder_1 (by decide) rfl ?_
    refine r_iconst (v := 0) dX6_isUnder_2 rfl ?_
    refine r_istore_n (loc' := [(3, .int 0), (2, .int 1), (0, .int 1), (1, .int (nI k))]) dX6_isUnder_3 (by decide) rfl ?_
    refine r_iload_n dX6_isUnder_4 rfl ?_
    refine r_bipush (v := 6) dX6_isUnder_5 rfl ?_
    refine r_icmp_ge (tgt := 38) dX6_isUnder_7 (by decide) (fun hqz => absurd hqz (by decide)) (fun _ => ?_)
    refine r_iload_n dX6_isUnder_10 rfl ?_
    refine r_bipush (v := 6) dX6_isUnder_11 rfl ?_
    refine r_callS2 dX6_isUnder_13 lk_X6_100 (Nat.le_of_ble_eq_true rfl) (win_t (j := 1) (lim := 6) rfl (by decide) (by decide) ?_)
    refine r_if_eq (tgt := 38) dX6_isUnder_16 (by decide) (fun hqz => absurd hqz (by decide)) (fun _ => ?_)
    refine r_iload_n dX6_isUnder_19 rfl ?_
    refine r_iload_n dX6_isUnder_20 rfl ?_
    refine r_icmp_ne (tgt := 26) dX6_isUnder_21 (by decide) (fun b21 => ?_) (fun b21 => ?_)
    · refine r_gsAb dX6_isUnder_26 rfl ?_
      refine r_iload_n dX6_isUnder_29 rfl ?_
      refine r_rw (y := nI 1) rfl ?_
      refine r_abld dX6_isUnder_30 (by decide) ?_
      refine r_rw (y := 0) rfl ?_
      refine r_istore_n (loc' := [(2, .int 0), (3, .int 0), (0, .int 1), (1, .int (nI k))]) dX6_isUnder_31 (by decide) rfl ?_
      refine r_iinc (v := 1) (loc' := [(3, .int 1), (2, .int 0), (0, .int 1), (1, .int (nI k))]) dX6_isUnder_32 rfl (rfl) (by decide) rfl ?_
      refine r_goto (tgt := 4) dX6_isUnder_35 (by decide) ?_
      refine r_iload_n dX6_isUnder_4 rfl ?_
      refine r_bipush (v := 6) dX6_isUnder_5 rfl ?_
      refine r_icmp_ge (tgt := 38) dX6_isUnder_7 (by decide) (fun hqz => absurd hqz (by decide)) (fun _ => ?_)
      refine r_iload_n dX6_isUnder_10 rfl ?_
      refine r_bipush (v := 6) dX6_isUnder_11 rfl ?_
      refine r_callS2 dX6_isUnder_13 lk_X6_100 (Nat.le_of_ble_eq_true rfl) (win_t (j := 0) (lim := 6) rfl (by decide) (by decide) ?_)
      refine r_if_eq (tgt := 38) dX6_isUnder_16 (by decide) (fun hqz => absurd hqz (by decide)) (fun _ => ?_)
      refine r_iload_n dX6_isUnder_19 rfl ?_
      refine r_iload_n dX6_isUnder_20 rfl ?_
      refine r_icmp_ne (tgt := 26) dX6_isUnder_21 (by decide) (fun b21_1 => ?_) (fun b21_1 => ?_)
      · refine r_gsAb dX6_isUnder_26 rfl ?_
        refine r_iload_n dX6_isUnder_29 rfl ?_
        refine r_rw (y := nI 0) rfl ?_
        refine r_abld dX6_isUnder_30 (by decide) ?_
        refine r_rw (y := (-1)) rfl ?_
        refine r_istore_n (loc' := [(2, .int (-1)), (3, .int 1), (0, .int 1), (1, .int (nI k))]) dX6_isUnder_31 (by decide) rfl ?_
        refine r_iinc (v := 2) (loc' := [(3, .int 2), (2, .int (-1)), (0, .int 1), (1, .int (nI k))]) dX6_isUnder_32 rfl (rfl) (by decide) rfl ?_
        refine r_goto (tgt := 4) dX6_isUnder_35 (by decide) ?_
        refine r_iload_n dX6_isUnder_4 rfl ?_
        refine r_bipush (v := 6) dX6_isUnder_5 rfl ?_
        refine r_icmp_ge (tgt := 38) dX6_isUnder_7 (by decide) (fun hqz => absurd hqz (by decide)) (fun _ => ?_)
        refine r_iload_n dX6_isUnder_10 rfl ?_
        refine r_bipush (v := 6) dX6_isUnder_11 rfl ?_
        refine r_callS2 dX6_isUnder_13 lk_X6_100 (Nat.le_of_ble_eq_true rfl) (win_f 6 rfl (by decide) n1_no ?_)
        refine r_if_eq (tgt := 38) dX6_isUnder_16 (by decide) (fun _ => ?_) (fun hqz => absurd (by decide) hqz)
        refine r_iconst (v := 0) dX6_isUnder_38 rfl ?_
        refine r_ireturn dX6_isUnder_39 rfl (by decide) ?_
        rcases (show k = 0 ∨ k = 1 ∨ k = 2 ∨ k = 3 ∨ k = 4 ∨ k = 5 by omega) with rfl | rfl | rfl | rfl | rfl | rfl <;> first | exact hT (by decide) | exact hF (by decide) | exact absurd rfl b21 | exact absurd rfl b21_1 | exact absurd rfl b21_2 | exact absurd b21 (by decide) | exact absurd b21_1 (by decide) | exact absurd b21_2 (by decide)
      · refine r_iconst (v := 1) dX6_isUnder_24 rfl ?_
        refine r_ireturn dX6_isUnder_25 rfl (by decide) ?_
        rcases (show k = 0 ∨ k = 1 ∨ k = 2 ∨ k = 3 ∨ k = 4 ∨ k = 5 by omega) with rfl | rfl | rfl | rfl | rfl | rfl <;> first | exact hT (by decide) | exact hF (by decide) | exact absurd rfl b21 | exact absurd rfl b21_1 | exact absurd rfl b21_2 | exact absurd b21 (by decide) | exact absurd b21_1 (by decide) | exact absurd b21_2 (by decide)
    · refine r_iconst (v := 1) dX6_isUnder_24 rfl ?_
      refine r_ireturn dX6_isUnder_25 rfl (by decide) ?_
      rcases (show k = 0 ∨ k = 1 ∨ k = 2 ∨ k = 3 ∨ k = 4 ∨ k = 5 by omega) with rfl | rfl | rfl | rfl | rfl | rfl <;> first | exact hT (by decide) | exact hF (by decide) | exact absurd rfl b21 | exact absurd rfl b21_1 | exact absurd rfl b21_2 | exact absurd b21 (by decide) | exact absurd b21_1 (by decide) | exact absurd b21_2 (by decide)
  · show qG E mm_X6_isUnder (d + 1) 0 [(0, .int 2), (1, .int (nI k))] [] A L Ph
    refine r_iload_n dX6_isUnder_0 rfl ?_
    refine r_istore_n (loc' := [(2, .int 2), (0, .int 2), (1, .int (nI k))]) dX6_isUnder_1 (by decide) rfl ?_
    refine r_iconst (v := 0) dX6_isUnder_2 rfl ?_
    refine r_istore_n (loc' := [(3, .int 0), (2, .int 2), (0, .int 2), (1, .int (nI k))]) dX6_isUnder_3 (by decide) rfl ?_
    refine r_iload_n dX6_isUnder_4 rfl ?_
    refine r_bipush (v := 6) dX6_isUnder_5 rfl ?_
    refine r_icmp_ge (tgt := 38) dX6_isUnder_7 (by decide) (fun hqz => absurd hqz (by decide)) (fun _ => ?_)
    refine r_iload_n dX6_isUnder_10 rfl ?_
    refine r_bipush (v := 6) dX6_isUnder_11 rfl ?_
    refine r_callS2 dX6_isUnder_13 lk_X6_100 (Nat.le_of_ble_eq_true rfl) (win_t (j := 2) (lim := 6) rfl (by decide) (by decide) ?_)
    refine r_if_eq (tgt := 38) dX6_isUnder_16 (by decide) (fun hqz => absurd hqz (by decide)) (fun _ => ?_)
    refine r_iload_n dX6_isUnder_19 rfl ?_
    refine r_iload_n dX6_isUnder_20 rfl ?_
    refine r_icmp_ne (tgt := 26) dX6_isUnder_21 (by decide) (fun b21 => ?_) (fun b21 => ?_)
    · refine r_gsAb dX6_isUnder_26 rfl ?_
      refine r_iload_n dX6_isUnder_29 rfl ?_
      refine r_rw (y := nI 2) rfl ?_
      refine r_abld dX6_isUnder_30 (by decide) ?_
      refine r_rw (y := 0) rfl ?_
      refine r_istore_n (loc' := [(2, .int 0), (3, .int 0), (0, .int 2), (1, .int (nI k))]) dX6_isUnder_31 (by decide) rfl ?_
      refine r_iinc (v := 1) (loc' := [(3, .int 1), (2, .int 0), (0, .int 2), (1, .int (nI k))]) dX6_isUnder_32 rfl (rfl) (by decide) rfl ?_
      refine r_goto (tgt := 4) dX6_isUnder_35 (by decide) ?_
      refine r_iload_n dX6_isUnder_4 rfl ?_
      refine r_bipush (v := 6) dX6_isUnder_5 rfl ?_
      refine r_icmp_ge (tgt := 38) dX6_isUnder_7 (by decide) (fun hqz => absurd hqz (by decide)) (fun _ => ?_)
      refine r_iload_n dX6_isUnder_10 rfl ?_
      refine r_bipush (v := 6) dX6_isUnder_11 rfl ?_
      refine r_callS2 dX6_isUnder_13 lk_X6_100 (Nat.le_of_ble_eq_true rfl) (win_t (j := 0) (lim := 6) rfl (by decide) (by decide) ?_)
      refine r_if_eq (tgt := 38) dX6_isUnder_16 (by decide) (fun hqz => absurd hqz (by decide)) (fun _ => ?_)
      refine r_iload_n dX6_isUnder_19 rfl ?_
      refine r_iload_n dX6_isUnder_20 rfl ?_
      refine r_icmp_ne (tgt := 26) dX6_isUnder_21 (by decide) (fun b21_1 => ?_) (fun b21_1 => ?_)
      · refine r_gsAb dX6_isUnder_26 rfl ?_
        refine r_iload_n dX6_isUnder_29 rfl ?_
        refine r_rw (y := nI 0) rfl ?_
        refine r_abld dX6_isUnder_30 (by decide) ?_
        refine r_rw (y := (-1)) rfl ?_
        refine r_istore_n (loc' := [(2, .int (-1)), (3, .int 1), (0, .int 2), (1, .int (nI k))]) dX6_isUnder_31 (by decide) rfl ?_
        refine r_iinc (v := 2) (loc' := [(3, .int 2), (2, .int (-1)), (0, .int 2), (1, .int (nI k))]) dX6_isUnder_32 rfl (rfl) (by decide) rfl ?_
        refine r_goto (tgt := 4) dX6_isUnder_35 (by decide) ?_
        refine r_iload_n dX6_isUnder_4 rfl ?_
        refine r_bipush (v := 6) dX6_isUnder_5 rfl ?_
        refine r_icmp_ge (tgt := 38) dX6_isUnder_7 (by decide) (fun hqz => absurd hqz (by decide)) (fun _ => ?_)
        refine r_iload_n dX6_isUnder_10 rfl ?_
        refine r_bipush (v := 6) dX6_isUnder_11 rfl ?_
        refine r_callS2 dX6_isUnder_13 lk_X6_100 (Nat.le_of_ble_eq_true rfl) (win_f 6 rfl (by decide) n1_no ?_)
        refine r_if_eq (tgt := 38) dX6_isUnder_16 (by decide) (fun _ => ?_) (fun hqz => absurd (by decide) hqz)
        refine r_iconst (v := 0) dX6_isUnder_38 rfl ?_
        refine r_ireturn dX6_isUnder_39 rfl (by decide) ?_
        rcases (show k = 0 ∨ k = 1 ∨ k = 2 ∨ k = 3 ∨ k = 4 ∨ k = 5 by omega) with rfl | rfl | rfl | rfl | rfl | rfl <;> first | exact hT (by decide) | exact hF (by decide) | exact absurd rfl b21 | exact absurd rfl b21_1 | exact absurd rfl b21_2 | exact absurd b21 (by decide) | exact absurd b21_1 (by decide) | exact absurd b21_2 (by decide)
      · refine r_iconst (v := 1) dX6_isUnder_24 rfl ?_
        refine r_ireturn dX6_isUnder_25 rfl (by decide) ?_
        rcases (show k = 0 ∨ k = 1 ∨ k = 2 ∨ k = 3 ∨ k = 4 ∨ k = 5 by omega) with rfl | rfl | rfl | rfl | rfl | rfl <;> first | exact hT (by decide) | exact hF (by decide) | exact absurd rfl b21 | exact absurd rfl b21_1 | exact absurd rfl b21_2 | exact absurd b21 (by decide) | exact absurd b21_1 (by decide) | exact absurd b21_2 (by decide)
    · refine r_iconst (v := 1) dX6_isUnder_24 rfl ?_
      refine r_ireturn dX6_isUnder_25 rfl (by decide) ?_
      rcases (show k = 0 ∨ k = 1 ∨ k = 2 ∨ k = 3 ∨ k = 4 ∨ k = 5 by omega) with rfl | rfl | rfl | rfl | rfl | rfl <;> first | exact hT (by decide) | exact hF (by decide) | exact absurd rfl b21 | exact absurd rfl b21_1 | exact absurd rfl b21_2 | exact absurd b21 (by decide) | exact absurd b21_1 (by decide) | exact absurd b21_2 (by decide)
  · show qG E mm_X6_isUnder (d + 1) 0 [(0, .int 3), (1, .int (nI k))] [] A L Ph
    refine r_iload_n dX6_isUnder_0 rfl ?_
    refine r_istore_n (loc' := [(2, .int 3), (0, .int 3), (1, .int (nI k))]) dX6_isUnder_1 (by decide) rfl ?_
    refine r_iconst (v := 0) dX6_isUnder_2 rfl ?_
    refine r_istore_n (loc' := [(3, .int 0), (2, .int 3), (0, .int 3), (1, .int (nI k))]) dX6_isUnder_3 (by decide) rfl ?_
    refine r_iload_n dX6_isUnder_4 rfl ?_
    refine r_bipush (v := 6) dX6_isUnder_5 rfl ?_
    refine r_icmp_ge (tgt := 38) dX6_isUnder_7 (by decide) (fun hqz => absurd hqz (by decide)) (fun _ => ?_)
    refine r_iload_n dX6_isUnder_10 rfl ?_
    refine r_bipush (v := 6) dX6_isUnder_11 rfl ?_
    refine r_callS2 dX6_isUnder_13 lk_X6_100 (Nat.le_of_ble_eq_true rfl) (win_t (j := 3) (lim := 6) rfl (by decide) (by decide) ?_)
    refine r_if_eq (tgt := 38) dX6_isUnder_16 (by decide) (fun hqz => absurd hqz (by decide)) (fun _ => ?_)
    refine r_iload_n dX6_isUnder_19 rfl ?_
    refine r_iload_n dX6_isUnder_20 rfl ?_
    refine r_icmp_ne (tgt := 26) dX6_isUnder_21 (by decide) (fun b21 => ?_) (fun b21 => ?_)
    · refine r_gsAb dX6_isUnder_26 rfl ?_
      refine r_iload_n dX6_isUnder_29 rfl ?_
      refine r_rw (y := nI 3) rfl ?_
      refine r_abld dX6_isUnder_30 (by decide) ?_
      refine r_rw (y := 1) rfl ?_
      refine r_istore_n (loc' := [(2, .int 1), (3, .int 0), (0, .int 3), (1, .int (nI k))]) dX6_isUnder_31 (by decide) rfl ?_
      refine r_iinc (v := 1) (loc' := [(3, .int 1), (2, .int 1), (0, .int 3), (1, .int (nI k))]) dX6_isUnder_32 rfl (rfl) (by decide) rfl ?_
      refine r_goto (tgt := 4) dX6_isUnder_35 (by decide) ?_
      refine r_iload_n dX6_isUnder_4 rfl ?_
      refine r_bipush (v := 6) dX6_isUnder_5 rfl ?_
      refine r_icmp_ge (tgt := 38) dX6_isUnder_7 (by decide) (fun hqz => absurd hqz (by decide)) (fun _ => ?_)
      refine r_iload_n dX6_isUnder_10 rfl ?_
      refine r_bipush (v := 6) dX6_isUnder_11 rfl ?_
      refine r_callS2 dX6_isUnder_13 lk_X6_100 (Nat.le_of_ble_eq_true rfl) (win_t (j := 1) (lim := 6) rfl (by decide) (by decide) ?_)
      refine r_if_eq (tgt := 38) dX6_isUnder_16 (by decide) (fun hqz => absurd hqz (by decide)) (fun _ => ?_)
      refine r_iload_n dX6_isUnder_19 rfl ?_
      refine r_iload_n dX6_isUnder_20 rfl ?_
      refine r_icmp_ne (tgt := 26) dX6_isUnder_21 (by decide) (fun b21_1 => ?_) (fun b21_1 => ?_)
      · refine r_gsAb dX6_isUnder_26 rfl ?_
        refine r_iload_n dX6_isUnder_29 rfl ?_
        refine r_rw (y := nI 1) rfl ?_
        refine r_abld dX6_isUnder_30 (by decide) ?_
        refine r_rw (y := 0) rfl ?_
        refine r_istore_n (loc' := [(2, .int 0), (3, .int 1), (0, .int 3), (1, .int (nI k))]) dX6_isUnder_31 (by decide) rfl ?_
        refine r_iinc (v := 2) (loc' := [(3, .int 2), (2, .int 0), (0, .int 3), (1, .int (nI k))]) dX6_isUnder_32 rfl (rfl) (by decide) rfl ?_
        refine r_goto (tgt := 4) dX6_isUnder_35 (by decide) ?_
        refine r_iload_n dX6_isUnder_4 rfl ?_
        refine r_bipush (v := 6) dX6_isUnder_5 rfl ?_
        refine r_icmp_ge (tgt := 38) dX6_isUnder_7 (by decide) (fun hqz => absurd hqz (by decide)) (fun _ => ?_)
        refine r_iload_n dX6_isUnder_10 rfl ?_
        refine r_bipush (v := 6) dX6_isUnder_11 rfl ?_
        refine r_callS2 dX6_isUnder_13 lk_X6_100 (Nat.le_of_ble_eq_true rfl) (win_t (j := 0) (lim := 6) rfl (by decide) (by decide) ?_)
        refine r_if_eq (tgt := 38) dX6_isUnder_16 (by decide) (fun hqz => absurd hqz (by decide)) (fun _ => ?_)
        refine r_iload_n dX6_isUnder_19 rfl ?_
        refine r_iload_n dX6_isUnder_20 rfl ?_
        refine r_icmp_ne (tgt := 26) dX6_isUnder_21 (by decide) (fun b21_2 => ?_) (fun b21_2 => ?_)
        · refine r_gsAb dX6_isUnder_26 rfl ?_
          refine r_iload_n dX6_isUnder_29 rfl ?_
          refine r_rw (y := nI 0) rfl ?_
          refine r_abld dX6_isUnder_30 (by decide) ?_
          refine r_rw (y := (-1)) rfl ?_
          refine r_istore_n (loc' := [(2, .int (-1)), (3, .int 2), (0, .int 3), (1, .int (nI k))]) dX6_isUnder_31 (by decide) rfl ?_
          refine r_iinc (v := 3) (loc' := [(3, .int 3), (2, .int (-1)), (0, .int 3), (1, .int (nI k))]) dX6_isUnder_32 rfl (rfl) (by decide) rfl ?_
          refine r_goto (tgt := 4) dX6_isUnder_35 (by decide) ?_
          refine r_iload_n dX6_isUnder_4 rfl ?_
          refine r_bipush (v := 6) dX6_isUnder_5 rfl ?_
          refine r_icmp_ge (tgt := 38) dX6_isUnder_7 (by decide) (fun hqz => absurd hqz (by decide)) (fun _ => ?_)
          refine r_iload_n dX6_isUnder_10 rfl ?_
          refine r_bipush (v := 6) dX6_isUnder_11 rfl ?_
          refine r_callS2 dX6_isUnder_13 lk_X6_100 (Nat.le_of_ble_eq_true rfl) (win_f 6 rfl (by decide) n1_no ?_)
          refine r_if_eq (tgt := 38) dX6_isUnder_16 (by decide) (fun _ => ?_) (fun hqz => absurd (by decide) hqz)
          refine r_iconst (v := 0) dX6_isUnder_38 rfl ?_
          refine r_ireturn dX6_isUnder_39 rfl (by decide) ?_
          rcases (show k = 0 ∨ k = 1 ∨ k = 2 ∨ k = 3 ∨ k = 4 ∨ k = 5 by omega) with rfl | rfl | rfl | rfl | rfl | rfl <;> first | exact hT (by decide) | exact hF (by decide) | exact absurd rfl b21 | exact absurd rfl b21_1 | exact absurd rfl b21_2 | exact absurd b21 (by decide) | exact absurd b21_1 (by decide) | exact absurd b21_2 (by decide)
        · refine r_iconst (v := 1) dX6_isUnder_24 rfl ?_
          refine r_ireturn dX6_isUnder_25 rfl (by decide) ?_
          rcases (show k = 0 ∨ k = 1 ∨ k = 2 ∨ k = 3 ∨ k = 4 ∨ k = 5 by omega) with rfl | rfl | rfl | rfl | rfl | rfl <;> first | exact hT (by decide) | exact hF (by decide) | exact absurd rfl b21 | exact absurd rfl b21_1 | exact absurd rfl b21_2 | exact absurd b21 (by decide) | exact absurd b21_1 (by decide) | exact absurd b21_2 (by decide)
      · refine r_iconst (v := 1) dX6_isUnder_24 rfl ?_
        refine r_ireturn dX6_isUnder_25 rfl (by decide) ?_
        rcases (show k = 0 ∨ k = 1 ∨ k = 2 ∨ k = 3 ∨ k = 4 ∨ k = 5 by omega) with rfl | rfl | rfl | rfl | rfl | rfl <;> first | exact hT (by decide) | exact hF (by decide) | exact absurd rfl b21 | exact absurd rfl b21_1 | exact absurd rfl b21_2 | exact absurd b21 (by decide) | exact absurd b21_1 (by decide) | exact absurd b21_2 (by decide)
    · refine r_iconst (v := 1) dX6_isUnder_24 rfl ?_
      refine r_ireturn dX6_isUnder_25 rfl (by decide) ?_
      rcases (show k = 0 ∨ k = 1 ∨ k = 2 ∨ k = 3 ∨ k = 4 ∨ k = 5 by omega) with rfl | rfl | rfl | rfl | rfl | rfl <;> first | exact hT (by decide) | exact hF (by decide) | exact absurd rfl b21 | exact absurd rfl b21_1 | exact absurd rfl b21_2 | exact absurd b21 (by decide) | exact absurd b21_1 (by decide) | exact absurd b21_2 (by decide)
  · show qG E mm_X6_isUnder (d + 1) 0 [(0, .int 4), (1, .int (nI k))] [] A L Ph
    refine r_iload_n dX6_isUnder_0 rfl ?_
    refine r_istore_n (loc' := [(2, .int 4), (0, .int 4), (1, .int (nI k))]) dX6_isUnder_1 (by decide) rfl ?_
    refine r_iconst (v := 0) dX6_isUnder_2 rfl ?_
    refine r_istore_n (loc' := [(3, .int 0), (2, .int 4), (0, .int 4), (1, .int (nI k))]) dX6_isUnder_3 (by decide) rfl ?_
    refine r_iload_n dX6_isUnder_4 rfl ?_
    refine r_bipush (v := 6) dX6_isUnder_5 rfl ?_
    refine r_icmp_ge (tgt := 38) dX6_isUnder_7 (by decide) (fun hqz => absurd hqz (by decide)) (fun _ => ?_)
    refine r_iload_n dX6_isUnder_10 rfl ?_
    refine r_bipush (v := 6) dX6_isUnder_11 rfl ?_
    refine r_callS2 dX6_isUnder_13 lk_X6_100 (Nat.le_of_ble_eq_true rfl) (win_t (j := 4) (lim := 6) rfl (by decide) (by decide) ?_)
    refine r_if_eq (tgt := 38) dX6_isUnder_16 (by decide) (fun hqz => absurd hqz (by decide)) (fun _ => ?_)
    refine r_iload_n dX6_isUnder_19 rfl ?_
    refine r_iload_n dX6_isUnder_20 rfl ?_
    refine r_icmp_ne (tgt := 26) dX6_isUnder_21 (by decide) (fun b21 => ?_) (fun b21 => ?_)
    · refine r_gsAb dX6_isUnder_26 rfl ?_
      refine r_iload_n dX6_isUnder_29 rfl ?_
      refine r_rw (y := nI 4) rfl ?_
      refine r_abld dX6_isUnder_30 (by decide) ?_
      refine r_rw (y := 2) rfl ?_
      refine r_istore_n (loc' := [(2, .int 2), (3, .int 0), (0, .int 4), (1, .int (nI k))]) dX6_isUnder_31 (by decide) rfl ?_
      refine r_iinc (v := 1) (loc' := [(3, .int 1), (2, .int 2), (0, .int 4), (1, .int (nI k))]) dX6_isUnder_32 rfl (rfl) (by decide) rfl ?_
      refine r_goto (tgt := 4) dX6_isUnder_35 (by decide) ?_
      refine r_iload_n dX6_isUnder_4 rfl ?_
      refine r_bipush (v := 6) dX6_isUnder_5 rfl ?_
      refine r_icmp_ge (tgt := 38) dX6_isUnder_7 (by decide) (fun hqz => absurd hqz (by decide)) (fun _ => ?_)
      refine r_iload_n dX6_isUnder_10 rfl ?_
      refine r_bipush (v := 6) dX6_isUnder_11 rfl ?_
      refine r_callS2 dX6_isUnder_13 lk_X6_100 (Nat.le_of_ble_eq_true rfl) (win_t (j := 2) (lim := 6) rfl (by decide) (by decide) ?_)
      refine r_if_eq (tgt := 38) dX6_isUnder_16 (by decide) (fun hqz => absurd hqz (by decide)) (fun _ => ?_)
      refine r_iload_n dX6_isUnder_19 rfl ?_
      refine r_iload_n dX6_isUnder_20 rfl ?_
      refine r_icmp_ne (tgt := 26) dX6_isUnder_21 (by decide) (fun b21_1 => ?_) (fun b21_1 => ?_)
      · refine r_gsAb dX6_isUnder_26 rfl ?_
        refine r_iload_n dX6_isUnder_29 rfl ?_
        refine r_rw (y := nI 2) rfl ?_
        refine r_abld dX6_isUnder_30 (by decide) ?_
        refine r_rw (y := 0) rfl ?_
        refine r_istore_n (loc' := [(2, .int 0), (3, .int 1), (0, .int 4), (1, .int (nI k))]) dX6_isUnder_31 (by decide) rfl ?_
        refine r_iinc (v := 2) (loc' := [(3, .int 2), (2, .int 0), (0, .int 4), (1, .int (nI k))]) dX6_isUnder_32 rfl (rfl) (by decide) rfl ?_
        refine r_goto (tgt := 4) dX6_isUnder_35 (by decide) ?_
        refine r_iload_n dX6_isUnder_4 rfl ?_
        refine r_bipush (v := 6) dX6_isUnder_5 rfl ?_
        refine r_icmp_ge (tgt := 38) dX6_isUnder_7 (by decide) (fun hqz => absurd hqz (by decide)) (fun _ => ?_)
        refine r_iload_n dX6_isUnder_10 rfl ?_
        refine r_bipush (v := 6) dX6_isUnder_11 rfl ?_
        refine r_callS2 dX6_isUnder_13 lk_X6_100 (Nat.le_of_ble_eq_true rfl) (win_t (j := 0) (lim := 6) rfl (by decide) (by decide) ?_)
        refine r_if_eq (tgt := 38) dX6_isUnder_16 (by decide) (fun hqz => absurd hqz (by decide)) (fun _ => ?_)
        refine r_iload_n dX6_isUnder_19 rfl ?_
        refine r_iload_n dX6_isUnder_20 rfl ?_
        refine r_icmp_ne (tgt := 26) dX6_isUnder_21 (by decide) (fun b21_2 => ?_) (fun b21_2 => ?_)
        · refine r_gsAb dX6_isUnder_26 rfl ?_
          refine r_iload_n dX6_isUnder_29 rfl ?_
          refine r_rw (y := nI 0) rfl ?_
          refine r_abld dX6_isUnder_30 (by decide) ?_
          refine r_rw (y := (-1)) rfl ?_
          refine r_istore_n (loc' := [(2, .int (-1)), (3, .int 2), (0, .int 4), (1, .int (nI k))]) dX6_isUnder_31 (by decide) rfl ?_
          refine r_iinc (v := 3) (loc' := [(3, .int 3), (2, .int (-1)), (0, .int 4), (1, .int (nI k))]) dX6_isUnder_32 rfl (rfl) (by decide) rfl ?_
          refine r_goto (tgt := 4) dX6_isUnder_35 (by decide) ?_
          refine r_iload_n dX6_isUnder_4 rfl ?_
          refine r_bipush (v := 6) dX6_isUnder_5 rfl ?_
          refine r_icmp_ge (tgt := 38) dX6_isUnder_7 (by decide) (fun hqz => absurd hqz (by decide)) (fun _ => ?_)
          refine r_iload_n dX6_isUnder_10 rfl ?_
          refine r_bipush (v := 6) dX6_isUnder_11 rfl ?_
          refine r_callS2 dX6_isUnder_13 lk_X6_100 (Nat.le_of_ble_eq_true rfl) (win_f 6 rfl (by decide) n1_no ?_)
          refine r_if_eq (tgt := 38) dX6_isUnder_16 (by decide) (fun _ => ?_) (fun hqz => absurd (by decide) hqz)
          refine r_iconst (v := 0) dX6_isUnder_38 rfl ?_
          refine r_ireturn dX6_isUnder_39 rfl (by decide) ?_
          rcases (show k = 0 ∨ k = 1 ∨ k = 2 ∨ k = 3 ∨ k = 4 ∨ k = 5 by omega) with rfl | rfl | rfl | rfl | rfl | rfl <;> first | exact hT (by decide) | exact hF (by decide) | exact absurd rfl b21 | exact absurd rfl b21_1 | exact absurd rfl b21_2 | exact absurd b21 (by decide) | exact absurd b21_1 (by decide) | exact absurd b21_2 (by decide)
        · refine r_iconst (v := 1) dX6_isUnder_24 rfl ?_
          refine r_ireturn dX6_isUnder_25 rfl (by decide) ?_
          rcases (show k = 0 ∨ k = 1 ∨ k = 2 ∨ k = 3 ∨ k = 4 ∨ k = 5 by omega) with rfl | rfl | rfl | rfl | rfl | rfl <;> first | exact hT (by decide) | exact hF (by decide) | exact absurd rfl b21 | exact absurd rfl b21_1 | exact absurd rfl b21_2 | exact absurd b21 (by decide) | exact absurd b21_1 (by decide) | exact absurd b21_2 (by decide)
      · refine r_iconst (v := 1) dX6_isUnder_24 rfl ?_
        refine r_ireturn dX6_isUnder_25 rfl (by decide) ?_
        rcases (show k = 0 ∨ k = 1 ∨ k = 2 ∨ k = 3 ∨ k = 4 ∨ k = 5 by omega) with rfl | rfl | rfl | rfl | rfl | rfl <;> first | exact hT (by decide) | exact hF (by decide) | exact absurd rfl b21 | exact absurd rfl b21_1 | exact absurd rfl b21_2 | exact absurd b21 (by decide) | exact absurd b21_1 (by decide) | exact absurd b21_2 (by decide)
    · refine r_iconst (v := 1) dX6_isUnder_24 rfl ?_
      refine r_ireturn dX6_isUnder_25 rfl (by decide) ?_
      rcases (show k = 0 ∨ k = 1 ∨ k = 2 ∨ k = 3 ∨ k = 4 ∨ k = 5 by omega) with rfl | rfl | rfl | rfl | rfl | rfl <;> first | exact hT (by decide) | exact hF (by decide) | exact absurd rfl b21 | exact absurd rfl b21_1 | exact absurd rfl b21_2 | exact absurd b21 (by decide) | exact absurd b21_1 (by decide) | exact absurd b21_2 (by decide)
  · show qG E mm_X6_isUnder (d + 1) 0 [(0, .int 5), (1, .int (nI k))] [] A L Ph
    refine r_iload_n dX6_isUnder_0 rfl ?_
    refine r_istore_n (loc' := [(2, .int 5), (0, .int 5), (1, .int (nI k))]) dX6_isUnder_1 (by decide) rfl ?_
    refine r_iconst (v := 0) dX6_isUnder_2 rfl ?_
    refine r_istore_n (loc' := [(3, .int 0), (2, .int 5), (0, .int 5), (1, .int (nI k))]) dX6_isUnder_3 (by decide) rfl ?_
    refine r_iload_n dX6_isUnder_4 rfl ?_
    refine r_bipush (v := 6) dX6_isUnder_5 rfl ?_
    refine r_icmp_ge (tgt := 38) dX6_isUnder_7 (by decide) (fun hqz => absurd hqz (by decide)) (fun _ => ?_)
    refine r_iload_n dX6_isUnder_10 rfl ?_
    refine r_bipush (v := 6) dX6_isUnder_11 rfl ?_
    refine r_callS2 dX6_isUnder_13 lk_X6_100 (Nat.le_of_ble_eq_true rfl) (win_t (j := 5) (lim := 6) rfl (by decide) (by decide) ?_)
    refine r_if_eq (tgt := 38) dX6_isUnder_16 (by decide) (fun hqz => absurd hqz (by decide)) (fun _ => ?_)
    refine r_iload_n dX6_isUnder_19 rfl ?_
    refine r_iload_n dX6_isUnder_20 rfl ?_
    refine r_icmp_ne (tgt := 26) dX6_isUnder_21 (by decide) (fun b21 => ?_) (fun b21 => ?_)
    · refine r_gsAb dX6_isUnder_26 rfl ?_
      refine r_iload_n dX6_isUnder_29 rfl ?_
      refine r_rw (y := nI 5) rfl ?_
      refine r_abld dX6_isUnder_30 (by decide) ?_
      refine r_rw (y := 0) rfl ?_
      refine r_istore_n (loc' := [(2, .int 0), (3, .int 0), (0, .int 5), (1, .int (nI k))]) dX6_isUnder_31 (by decide) rfl ?_
      refine r_iinc (v := 1) (loc' := [(3, .int 1), (2, .int 0), (0, .int 5), (1, .int (nI k))]) dX6_isUnder_32 rfl (rfl) (by decide) rfl ?_
      refine r_goto (tgt := 4) dX6_isUnder_35 (by decide) ?_
      refine r_iload_n dX6_isUnder_4 rfl ?_
      refine r_bipush (v := 6) dX6_isUnder_5 rfl ?_
      refine r_icmp_ge (tgt := 38) dX6_isUnder_7 (by decide) (fun hqz => absurd hqz (by decide)) (fun _ => ?_)
      refine r_iload_n dX6_isUnder_10 rfl ?_
      refine r_bipush (v := 6) dX6_isUnder_11 rfl ?_
      refine r_callS2 dX6_isUnder_13 lk_X6_100 (Nat.le_of_ble_eq_true rfl) (win_t (j := 0) (lim := 6) rfl (by decide) (by decide) ?_)
      refine r_if_eq (tgt := 38) dX6_isUnder_16 (by decide) (fun hqz => absurd hqz (by decide)) (fun _ => ?_)
      refine r_iload_n dX6_isUnder_19 rfl ?_
      refine r_iload_n dX6_isUnder_20 rfl ?_
      refine r_icmp_ne (tgt := 26) dX6_isUnder_21 (by decide) (fun b21_1 => ?_) (fun b21_1 => ?_)
      · refine r_gsAb dX6_isUnder_26 rfl ?_
        refine r_iload_n dX6_isUnder_29 rfl ?_
        refine r_rw (y := nI 0) rfl ?_
        refine r_abld dX6_isUnder_30 (by decide) ?_
        refine r_rw (y := (-1)) rfl ?_
        refine r_istore_n (loc' := [(2, .int (-1)), (3, .int 1), (0, .int 5), (1, .int (nI k))]) dX6_isUnder_31 (by decide) rfl ?_
        refine r_iinc (v := 2) (loc' := [(3, .int 2), (2, .int (-1)), (0, .int 5), (1, .int (nI k))]) dX6_isUnder_32 rfl (rfl) (by decide) rfl ?_
        refine r_goto (tgt := 4) dX6_isUnder_35 (by decide) ?_
        refine r_iload_n dX6_isUnder_4 rfl ?_
        refine r_bipush (v := 6) dX6_isUnder_5 rfl ?_
        refine r_icmp_ge (tgt := 38) dX6_isUnder_7 (by decide) (fun hqz => absurd hqz (by decide)) (fun _ => ?_)
        refine r_iload_n dX6_isUnder_10 rfl ?_
        refine r_bipush (v := 6) dX6_isUnder_11 rfl ?_
        refine r_callS2 dX6_isUnder_13 lk_X6_100 (Nat.le_of_ble_eq_true rfl) (win_f 6 rfl (by decide) n1_no ?_)
        refine r_if_eq (tgt := 38) dX6_isUnder_16 (by decide) (fun _ => ?_) (fun hqz => absurd (by decide) hqz)
        refine r_iconst (v := 0) dX6_isUnder_38 rfl ?_
        refine r_ireturn dX6_isUnder_39 rfl (by decide) ?_
        rcases (show k = 0 ∨ k = 1 ∨ k = 2 ∨ k = 3 ∨ k = 4 ∨ k = 5 by omega) with rfl | rfl | rfl | rfl | rfl | rfl <;> first | exact hT (by decide) | exact hF (by decide) | exact absurd rfl b21 | exact absurd rfl b21_1 | exact absurd rfl b21_2 | exact absurd b21 (by decide) | exact absurd b21_1 (by decide) | exact absurd b21_2 (by decide)
      · refine r_iconst (v := 1) dX6_isUnder_24 rfl ?_
        refine r_ireturn dX6_isUnder_25 rfl (by decide) ?_
        rcases (show k = 0 ∨ k = 1 ∨ k = 2 ∨ k = 3 ∨ k = 4 ∨ k = 5 by omega) with rfl | rfl | rfl | rfl | rfl | rfl <;> first | exact hT (by decide) | exact hF (by decide) | exact absurd rfl b21 | exact absurd rfl b21_1 | exact absurd rfl b21_2 | exact absurd b21 (by decide) | exact absurd b21_1 (by decide) | exact absurd b21_2 (by decide)
    · refine r_iconst (v := 1) dX6_isUnder_24 rfl ?_
      refine r_ireturn dX6_isUnder_25 rfl (by decide) ?_
      rcases (show k = 0 ∨ k = 1 ∨ k = 2 ∨ k = 3 ∨ k = 4 ∨ k = 5 by omega) with rfl | rfl | rfl | rfl | rfl | rfl <;> first | exact hT (by decide) | exact hF (by decide) | exact absurd rfl b21 | exact absurd rfl b21_1 | exact absurd rfl b21_2 | exact absurd b21 (by decide) | exact absurd b21_1 (by decide) | exact absurd b21_2 (by decide)
set_option maxRecDepth 100000 in
set_option maxHeartbeats 4000000 in
theorem tk_loop (hE : hM E) {kk k : Nat} (h1 : kk < 6) (h2 : k < 6) {p : Nat} (hp : p < 5) (hAb : ∀ i, i < 6 → A 57 i = mAb i) (hT : undF kk k = true → Ph (some (.int (A 39 (41 + 4 * p)))) A L) (hF : undF kk k = false → Ph (some (.int (-13))) A L) : qG E mm_X7_taken (d + 1) 29 [(3, .int (nI kk)), (0, .ref 38), (1, .int (nI p)), (2, .int (nI k))] [] A L Ph := by
  rcases (show kk = 0 ∨ kk = 1 ∨ kk = 2 ∨ kk = 3 ∨ kk = 4 ∨ kk = 5 by omega) with rfl | rfl | rfl | rfl | rfl | rfl
  · show qG E mm_X7_taken (d + 1) 29 [(3, .int 0), (0, .ref 38), (1, .int (nI p)), (2, .int (nI k))] [] A L Ph
    refine r_iload_n dX7_taken_29 rfl ?_
    refine r_iconst (v := (-1)) dX7_taken_30 rfl ?_
    refine r_icmp_eq (tgt := 49) dX7_taken_31 (by decide) (fun hqz => absurd hqz (by decide)) (fun _ => ?_)
    refine r_iload_n dX7_taken_34 rfl ?_
    refine r_iload_n dX7_taken_35 rfl ?_
    refine r_icmp_eq (tgt := 49) dX7_taken_36 (by decide) (fun b36 => ?_) (fun b36 => ?_)
    · refine r_iload_n dX7_taken_49 rfl ?_
      refine r_iconst (v := (-1)) dX7_taken_50 rfl ?_
      refine r_icmp_ne (tgt := 59) dX7_taken_51 (by decide) (fun _ => ?_) (fun hqz => absurd hqz (by decide))
      refine r_aload_n dX7_taken_59 rfl ?_
      refine r_iload_n dX7_taken_60 rfl ?_
      refine r_callV1 dX7_taken_61 lk_X7_104 (ly_38 hE) rfl (Nat.le_of_ble_eq_true rfl) (sp_X7_number hE hp ?_)
      refine r_ireturn dX7_taken_64 rfl rfl ?_
      rcases (show k = 0 ∨ k = 1 ∨ k = 2 ∨ k = 3 ∨ k = 4 ∨ k = 5 by omega) with rfl | rfl | rfl | rfl | rfl | rfl <;> first | exact hT (by decide) | exact hF (by decide) | exact absurd rfl b36 | exact absurd rfl b36_1 | exact absurd rfl b36_2 | exact absurd b36 (by decide) | exact absurd b36_1 (by decide) | exact absurd b36_2 (by decide)
    · refine r_aload_n dX7_taken_39 rfl ?_
      refine r_getR dX7_taken_40 fl_X7_75 (ly_38 hE) rfl ?_
      refine r_iload_n dX7_taken_43 rfl ?_
      refine r_rw (y := nI 0) rfl ?_
      refine r_ialdN dX7_taken_44 (ly_57 hE) (by decide) (by decide) ?_
      refine r_rw (y := (-1)) ((hAb 0 (by decide)).trans rfl) ?_
      refine r_istore_n (loc' := [(3, .int (-1)), (0, .ref 38), (1, .int (nI p)), (2, .int (nI k))]) dX7_taken_45 (by decide) rfl ?_
      refine r_goto (tgt := 29) dX7_taken_46 (by decide) ?_
      refine r_iload_n dX7_taken_29 rfl ?_
      refine r_iconst (v := (-1)) dX7_taken_30 rfl ?_
      refine r_icmp_eq (tgt := 49) dX7_taken_31 (by decide) (fun _ => ?_) (fun hqz => absurd (by decide) hqz)
      refine r_iload_n dX7_taken_49 rfl ?_
      refine r_iconst (v := (-1)) dX7_taken_50 rfl ?_
      refine r_icmp_ne (tgt := 59) dX7_taken_51 (by decide) (fun hqz => absurd (by decide) hqz) (fun _ => ?_)
      refine r_bipush (v := (-13)) dX7_taken_54 rfl ?_
      refine r_goto (tgt := 64) dX7_taken_56 (by decide) ?_
      refine r_ireturn dX7_taken_64 rfl rfl ?_
      rcases (show k = 0 ∨ k = 1 ∨ k = 2 ∨ k = 3 ∨ k = 4 ∨ k = 5 by omega) with rfl | rfl | rfl | rfl | rfl | rfl <;> first | exact hT (by decide) | exact hF (by decide) | exact absurd rfl b36 | exact absurd rfl b36_1 | exact absurd rfl b36_2 | exact absurd b36 (by decide) | exact absurd b36_1 (by decide) | exact absurd b36_2 (by decide)
  · show qG E mm_X7_taken (d + 1) 29 [(3, .int 1), (0, .ref 38), (1, .int (nI p)), (2, .int (nI k))] [] A L Ph
    refine r_iload_n dX7_taken_29 rfl ?_
    refine r_iconst (v := (-1)) dX7_taken_30 rfl ?_
    refine r_icmp_eq (tgt := 49) dX7_taken_31 (by decide) (fun hqz => absurd hqz (by decide)) (fun _ => ?_)
    refine r_iload_n dX7_taken_34 rfl ?_
    refine r_iload_n dX7_taken_35 rfl ?_
    refine r_icmp_eq (tgt := 49) dX7_taken_36 (by decide) (fun b36 => ?_) (fun b36 => ?_)
    · refine r_iload_n dX7_taken_49 rfl ?_
      refine r_iconst (v := (-1)) dX7_taken_50 rfl ?_
      refine r_icmp_ne (tgt := 59) dX7_taken_51 (by decide) (fun _ => ?_) (fun hqz => absurd hqz (by decide))
      refine r_aload_n dX7_taken_59 rfl ?_
      refine r_iload_n dX7_taken_60 rfl ?_
      refine r_callV1 dX7_taken_61 lk_X7_104 (ly_38 hE) rfl (Nat.le_of_ble_eq_true rfl) (sp_X7_number hE hp ?_)
      refine r_ireturn dX7_taken_64 rfl rfl ?_
      rcases (show k = 0 ∨ k = 1 ∨ k = 2 ∨ k = 3 ∨ k = 4 ∨ k = 5 by omega) with rfl | rfl | rfl | rfl | rfl | rfl <;> first | exact hT (by decide) | exact hF (by decide) | exact absurd rfl b36 | exact absurd rfl b36_1 | exact absurd rfl b36_2 | exact absurd b36 (by decide) | exact absurd b36_1 (by decide) | exact absurd b36_2 (by decide)
    · refine r_aload_n dX7_taken_39 rfl ?_
      refine r_getR dX7_taken_40 fl_X7_75 (ly_38 hE) rfl ?_
      refine r_iload_n dX7_taken_43 rfl ?_
      refine r_rw (y := nI 1) rfl ?_
      refine r_ialdN dX7_taken_44 (ly_57 hE) (by decide) (by decide) ?_
      refine r_rw (y := 0) ((hAb 1 (by decide)).trans rfl) ?_
      refine r_istore_n (loc' := [(3, .int 0), (0, .ref 38), (1, .int (nI p)), (2, .int (nI k))]) dX7_taken_45 (by decide) rfl ?_
      refine r_goto (tgt := 29) dX7_taken_46 (by decide) ?_
      refine r_iload_n dX7_taken_29 rfl ?_
      refine r_iconst (v := (-1)) dX7_taken_30 rfl ?_
      refine r_icmp_eq (tgt := 49) dX7_taken_31 (by decide) (fun hqz => absurd hqz (by decide)) (fun _ => ?_)
      refine r_iload_n dX7_taken_34 rfl ?_
      refine r_iload_n dX7_taken_35 rfl ?_
      refine r_icmp_eq (tgt := 49) dX7_taken_36 (by decide) (fun b36_1 => ?_) (fun b36_1 => ?_)
      · refine r_iload_n dX7_taken_49 rfl ?_
        refine r_iconst (v := (-1)) dX7_taken_50 rfl ?_
        refine r_icmp_ne (tgt := 59) dX7_taken_51 (by decide) (fun _ => ?_) (fun hqz => absurd hqz (by decide))
        refine r_aload_n dX7_taken_59 rfl ?_
        refine r_iload_n dX7_taken_60 rfl ?_
        refine r_callV1 dX7_taken_61 lk_X7_104 (ly_38 hE) rfl (Nat.le_of_ble_eq_true rfl) (sp_X7_number hE hp ?_)
        refine r_ireturn dX7_taken_64 rfl rfl ?_
        rcases (show k = 0 ∨ k = 1 ∨ k = 2 ∨ k = 3 ∨ k = 4 ∨ k = 5 by omega) with rfl | rfl | rfl | rfl | rfl | rfl <;> first | exact hT (by decide) | exact hF (by decide) | exact absurd rfl b36 | exact absurd rfl b36_1 | exact absurd rfl b36_2 | exact absurd b36 (by decide) | exact absurd b36_1 (by decide) | exact absurd b36_2 (by decide)
      · refine r_aload_n dX7_taken_39 rfl ?_
        refine r_getR dX7_taken_40 fl_X7_75 (ly_38 hE) rfl ?_
        refine r_iload_n dX7_taken_43 rfl ?_
        refine r_rw (y := nI 0) rfl ?_
        refine r_ialdN dX7_taken_44 (ly_57 hE) (by decide) (by decide) ?_
        refine r_rw (y := (-1)) ((hAb 0 (by decide)).trans rfl) ?_
        refine r_istore_n (loc' := [(3, .int (-1)), (0, .ref 38), (1, .int (nI p)), (2, .int (nI k))]) dX7_taken_45 (by decide) rfl ?_
        refine r_goto (tgt := 29) dX7_taken_46 (by decide) ?_
        refine r_iload_n dX7_taken_29 rfl ?_
        refine r_iconst (v := (-1)) dX7_taken_30 rfl ?_
        refine r_icmp_eq (tgt := 49) dX7_taken_31 (by decide) (fun _ => ?_) (fun hqz => absurd (by decide) hqz)
        refine r_iload_n dX7_taken_49 rfl ?_
        refine r_iconst (v := (-1)) dX7_taken_50 rfl ?_
        refine r_icmp_ne (tgt := 59) dX7_taken_51 (by decide) (fun hqz => absurd (by decide) hqz) (fun _ => ?_)
        refine r_bipush (v := (-13)) dX7_taken_54 rfl ?_
        refine r_goto (tgt := 64) dX7_taken_56 (by decide) ?_
        refine r_ireturn dX7_taken_64 rfl rfl ?_
        rcases (show k = 0 ∨ k = 1 ∨ k = 2 ∨ k = 3 ∨ k = 4 ∨ k = 5 by omega) with rfl | rfl | rfl | rfl | rfl | rfl <;> first | exact hT (by decide) | exact hF (by decide) | exact absurd rfl b36 | exact absurd rfl b36_1 | exact absurd rfl b36_2 | exact absurd b36 (by decide) | exact absurd b36_1 (by decide) | exact absurd b36_2 (by decide)
  · show qG E mm_X7_taken (d + 1) 29 [(3, .int 2), (0, .ref 38), (1, .int (nI p)), (2, .int (nI k))] [] A L Ph
    refine r_iload_n dX7_taken_29 rfl ?_
    refine r_iconst (v := (-1)) dX7_taken_30 rfl ?_
    refine r_icmp_eq (tgt := 49) dX7_taken_31 (by decide) (fun hqz => absurd hqz (by decide)) (fun _ => ?_)
    refine r_iload_n dX7_taken_34 rfl ?_
    refine r_iload_n dX7_taken_35 rfl ?_
    refine r_icmp_eq (tgt := 49) dX7_taken_36 (by decide) (fun b36 => ?_) (fun b36 => ?_)
    · refine r_iload_n dX7_taken_49 rfl ?_
      refine r_iconst (v := (-1)) dX7_taken_50 rfl ?_
      refine r_icmp_ne (tgt := 59) dX7_taken_51 (by decide) (fun _ => ?_) (fun hqz => absurd hqz (by decide))
      refine r_aload_n dX7_taken_59 rfl ?_
      refine r_iload_n dX7_taken_60 rfl ?_
      refine r_callV1 dX7_taken_61 lk_X7_104 (ly_38 hE) rfl (Nat.le_of_ble_eq_true rfl) (sp_X7_number hE hp ?_)
      refine r_ireturn dX7_taken_64 rfl rfl ?_
      rcases (show k = 0 ∨ k = 1 ∨ k = 2 ∨ k = 3 ∨ k = 4 ∨ k = 5 by omega) with rfl | rfl | rfl | rfl | rfl | rfl <;> first | exact hT (by decide) | exact hF (by decide) | exact absurd rfl b36 | exact absurd rfl b36_1 | exact absurd rfl b36_2 | exact absurd b36 (by decide) | exact absurd b36_1 (by decide) | exact absurd b36_2 (by decide)
    · refine r_aload_n dX7_taken_39 rfl ?_
      refine r_getR dX7_taken_40 fl_X7_75 (ly_38 hE) rfl ?_
      refine r_iload_n dX7_taken_43 rfl ?_
      refine r_rw (y := nI 2) rfl ?_
      refine r_ialdN dX7_taken_44 (ly_57 hE) (by decide) (by decide) ?_
      refine r_rw (y := 0) ((hAb 2 (by decide)).trans rfl) ?_
      refine r_istore_n (loc' := [(3, .int 0), (0, .ref 38), (1, .int (nI p)), (2, .int (nI k))]) dX7_taken_45 (by decide) rfl ?_
      refine r_goto (tgt := 29) dX7_taken_46 (by decide) ?_
      refine r_iload_n dX7_taken_29 rfl ?_
      refine r_iconst (v := (-1)) dX7_taken_30 rfl ?_
      refine r_icmp_eq (tgt := 49) dX7_taken_31 (by decide) (fun hqz => absurd hqz (by decide)) (fun _ => ?_)
      refine r_iload_n dX7_taken_34 rfl ?_
      refine r_iload_n dX7_taken_35 rfl ?_
      refine r_icmp_eq (tgt := 49) dX7_taken_36 (by decide) (fun b36_1 => ?_) (fun b36_1 => ?_)
      · refine r_iload_n dX7_taken_49 rfl ?_
        refine r_iconst (v := (-1)) dX7_taken_50 rfl ?_
        refine r_icmp_ne (tgt := 59) dX7_taken_51 (by decide) (fun _ => ?_) (fun hqz => absurd hqz (by decide))
        refine r_aload_n dX7_taken_59 rfl ?_
        refine r_iload_n dX7_taken_60 rfl ?_
        refine r_callV1 dX7_taken_61 lk_X7_104 (ly_38 hE) rfl (Nat.le_of_ble_eq_true rfl) (sp_X7_number hE hp ?_)
        refine r_ireturn dX7_taken_64 rfl rfl ?_
        rcases (show k = 0 ∨ k = 1 ∨ k = 2 ∨ k = 3 ∨ k = 4 ∨ k = 5 by omega) with rfl | rfl | rfl | rfl | rfl | rfl <;> first | exact hT (by decide) | exact hF (by decide) | exact absurd rfl b36 | exact absurd rfl b36_1 | exact absurd rfl b36_2 | exact absurd b36 (by decide) | exact absurd b36_1 (by decide) | exact absurd b36_2 (by decide)
      · refine r_aload_n dX7_taken_39 rfl ?_
        refine r_getR dX7_taken_40 fl_X7_75 (ly_38 hE) rfl ?_
        refine r_iload_n dX7_taken_43 rfl ?_
        refine r_rw (y := nI 0) rfl ?_
        refine r_ialdN dX7_taken_44 (ly_57 hE) (by decide) (by decide) ?_
        refine r_rw (y := (-1)) ((hAb 0 (by decide)).trans rfl) ?_
        refine r_istore_n (loc' := [(3, .int (-1)), (0, .ref 38), (1, .int (nI p)), (2, .int (nI k))]) dX7_taken_45 (by decide) rfl ?_
        refine r_goto (tgt := 29) dX7_taken_46 (by decide) ?_
        refine r_iload_n dX7_taken_29 rfl ?_
        refine r_iconst (v := (-1)) dX7_taken_30 rfl ?_
        refine r_icmp_eq (tgt := 49) dX7_taken_31 (by decide) (fun _ => ?_) (fun hqz => absurd (by decide) hqz)
        refine r_iload_n dX7_taken_49 rfl ?_
        refine r_iconst (v := (-1)) dX7_taken_50 rfl ?_
        refine r_icmp_ne (tgt := 59) dX7_taken_51 (by decide) (fun hqz => absurd (by decide) hqz) (fun _ => ?_)
        refine r_bipush (v := (-13)) dX7_taken_54 rfl ?_
        refine r_goto (tgt := 64) dX7_taken_56 (by decide) ?_
        refine r_ireturn dX7_taken_64 rfl rfl ?_
        rcases (show k = 0 ∨ k = 1 ∨ k = 2 ∨ k = 3 ∨ k = 4 ∨ k = 5 by omega) with rfl | rfl | rfl | rfl | rfl | rfl <;> first | exact hT (by decide) | exact hF (by decide) | exact absurd rfl b36 | exact absurd rfl b36_1 | exact absurd rfl b36_2 | exact absurd b36 (by decide) | exact absurd b36_1 (by decide) | exact absurd b36_2 (by decide)
  · show qG E mm_X7_taken (d + 1) 29 [(3, .int 3), (0, .ref 38), (1, .int (nI p)), (2, .int (nI k))] [] A L Ph
    refine r_iload_n dX7_taken_29 rfl ?_
    refine r_iconst (v := (-1)) dX7_taken_30 rfl ?_
    refine r_icmp_eq (tgt := 49) dX7_taken_31 (by decide) (fun hqz => absurd hqz (by decide)) (fun _ => ?_)
    refine r_iload_n dX7_taken_34 rfl ?_
    refine r_iload_n dX7_taken_35 rfl ?_
    refine r_icmp_eq (tgt := 49) dX7_taken_36 (by decide) (fun b36 => ?_) (fun b36 => ?_)
    · refine r_iload_n dX7_taken_49 rfl ?_
      refine r_iconst (v := (-1)) dX7_taken_50 rfl ?_
      refine r_icmp_ne (tgt := 59) dX7_taken_51 (by decide) (fun _ => ?_) (fun hqz => absurd hqz (by decide))
      refine r_aload_n dX7_taken_59 rfl ?_
      refine r_iload_n dX7_taken_60 rfl ?_
      refine r_callV1 dX7_taken_61 lk_X7_104 (ly_38 hE) rfl (Nat.le_of_ble_eq_true rfl) (sp_X7_number hE hp ?_)
      refine r_ireturn dX7_taken_64 rfl rfl ?_
      rcases (show k = 0 ∨ k = 1 ∨ k = 2 ∨ k = 3 ∨ k = 4 ∨ k = 5 by omega) with rfl | rfl | rfl | rfl | rfl | rfl <;> first | exact hT (by decide) | exact hF (by decide) | exact absurd rfl b36 | exact absurd rfl b36_1 | exact absurd rfl b36_2 | exact absurd b36 (by decide) | exact absurd b36_1 (by decide) | exact absurd b36_2 (by decide)
    · refine r_aload_n dX7_taken_39 rfl ?_
      refine r_getR dX7_taken_40 fl_X7_75 (ly_38 hE) rfl ?_
      refine r_iload_n dX7_taken_43 rfl ?_
      refine r_rw (y := nI 3) rfl ?_
      refine r_ialdN dX7_taken_44 (ly_57 hE) (by decide) (by decide) ?_
      refine r_rw (y := 1) ((hAb 3 (by decide)).trans rfl) ?_
      refine r_istore_n (loc' := [(3, .int 1), (0, .ref 38), (1, .int (nI p)), (2, .int (nI k))]) dX7_taken_45 (by decide) rfl ?_
      refine r_goto (tgt := 29) dX7_taken_46 (by decide) ?_
      refine r_iload_n dX7_taken_29 rfl ?_
      refine r_iconst (v := (-1)) dX7_taken_30 rfl ?_
      refine r_icmp_eq (tgt := 49) dX7_taken_31 (by decide) (fun hqz => absurd hqz (by decide)) (fun _ => ?_)
      refine r_iload_n dX7_taken_34 rfl ?_
      refine r_iload_n dX7_taken_35 rfl ?_
      refine r_icmp_eq (tgt := 49) dX7_taken_36 (by decide) (fun b36_1 => ?_) (fun b36_1 => ?_)
      · refine r_iload_n dX7_taken_49 rfl ?_
        refine r_iconst (v := (-1)) dX7_taken_50 rfl ?_
        refine r_icmp_ne (tgt := 59) dX7_taken_51 (by decide) (fun _ => ?_) (fun hqz => absurd hqz (by decide))
        refine r_aload_n dX7_taken_59 rfl ?_
        refine r_iload_n dX7_taken_60 rfl ?_
        refine r_callV1 dX7_taken_61 lk_X7_104 (ly_38 hE) rfl (Nat.le_of_ble_eq_true rfl) (sp_X7_number hE hp ?_)
        refine r_ireturn dX7_taken_64 rfl rfl ?_
        rcases (show k = 0 ∨ k = 1 ∨ k = 2 ∨ k = 3 ∨ k = 4 ∨ k = 5 by omega) with rfl | rfl | rfl | rfl | rfl | rfl <;> first | exact hT (by decide) | exact hF (by decide) | exact absurd rfl b36 | exact absurd rfl b36_1 | exact absurd rfl b36_2 | exact absurd b36 (by decide) | exact absurd b36_1 (by decide) | exact absurd b36_2 (by decide)
      · refine r_aload_n dX7_taken_39 rfl ?_
        refine r_getR dX7_taken_40 fl_X7_75 (ly_38 hE) rfl ?_
        refine r_iload_n dX7_taken_43 rfl ?_
        refine r_rw (y := nI 1) rfl ?_
        refine r_ialdN dX7_taken_44 (ly_57 hE) (by decide) (by decide) ?_
        refine r_rw (y := 0) ((hAb 1 (by decide)).trans rfl) ?_
        refine r_istore_n (loc' := [(3, .int 0), (0, .ref 38), (1, .int (nI p)), (2, .int (nI k))]) dX7_taken_45 (by decide) rfl ?_
        refine r_goto (tgt := 29) dX7_taken_46 (by decide) ?_
        refine r_iload_n dX7_taken_29 rfl ?_
        refine r_iconst (v := (-1)) dX7_taken_30 rfl ?_
        refine r_icmp_eq (tgt := 49) dX7_taken_31 (by decide) (fun hqz => absurd hqz (by decide)) (fun _ => ?_)
        refine r_iload_n dX7_taken_34 rfl ?_
        refine r_iload_n dX7_taken_35 rfl ?_
        refine r_icmp_eq (tgt := 49) dX7_taken_36 (by decide) (fun b36_2 => ?_) (fun b36_2 => ?_)
        · refine r_iload_n dX7_taken_49 rfl ?_
          refine r_iconst (v := (-1)) dX7_taken_50 rfl ?_
          refine r_icmp_ne (tgt := 59) dX7_taken_51 (by decide) (fun _ => ?_) (fun hqz => absurd hqz (by decide))
          refine r_aload_n dX7_taken_59 rfl ?_
          refine r_iload_n dX7_taken_60 rfl ?_
          refine r_callV1 dX7_taken_61 lk_X7_104 (ly_38 hE) rfl (Nat.le_of_ble_eq_true rfl) (sp_X7_number hE hp ?_)
          refine r_ireturn dX7_taken_64 rfl rfl ?_
          rcases (show k = 0 ∨ k = 1 ∨ k = 2 ∨ k = 3 ∨ k = 4 ∨ k = 5 by omega) with rfl | rfl | rfl | rfl | rfl | rfl <;> first | exact hT (by decide) | exact hF (by decide) | exact absurd rfl b36 | exact absurd rfl b36_1 | exact absurd rfl b36_2 | exact absurd b36 (by decide) | exact absurd b36_1 (by decide) | exact absurd b36_2 (by decide)
        · refine r_aload_n dX7_taken_39 rfl ?_
          refine r_getR dX7_taken_40 fl_X7_75 (ly_38 hE) rfl ?_
          refine r_iload_n dX7_taken_43 rfl ?_
          refine r_rw (y := nI 0) rfl ?_
          refine r_ialdN dX7_taken_44 (ly_57 hE) (by decide) (by decide) ?_
          refine r_rw (y := (-1)) ((hAb 0 (by decide)).trans rfl) ?_
          refine r_istore_n (loc' := [(3, .int (-1)), (0, .ref 38), (1, .int (nI p)), (2, .int (nI k))]) dX7_taken_45 (by decide) rfl ?_
          refine r_goto (tgt := 29) dX7_taken_46 (by decide) ?_
          refine r_iload_n dX7_taken_29 rfl ?_
          refine r_iconst (v := (-1)) dX7_taken_30 rfl ?_
          refine r_icmp_eq (tgt := 49) dX7_taken_31 (by decide) (fun _ => ?_) (fun hqz => absurd (by decide) hqz)
          refine r_iload_n dX7_taken_49 rfl ?_
          refine r_iconst (v := (-1)) dX7_taken_50 rfl ?_
          refine r_icmp_ne (tgt := 59) dX7_taken_51 (by decide) (fun hqz => absurd (by decide) hqz) (fun _ => ?_)
          refine r_bipush (v := (-13)) dX7_taken_54 rfl ?_
          refine r_goto (tgt := 64) dX7_taken_56 (by decide) ?_
          refine r_ireturn dX7_taken_64 rfl rfl ?_
          rcases (show k = 0 ∨ k = 1 ∨ k = 2 ∨ k = 3 ∨ k = 4 ∨ k = 5 by omega) with rfl | rfl | rfl | rfl | rfl | rfl <;> first | exact hT (by decide) | exact hF (by decide) | exact absurd rfl b36 | exact absurd rfl b36_1 | exact absurd rfl b36_2 | exact absurd b36 (by decide) | exact absurd b36_1 (by decide) | exact absurd b36_2 (by decide)
  · show qG E mm_X7_taken (d + 1) 29 [(3, .int 4), (0, .ref 38), (1, .int (nI p)), (2, .int (nI k))] [] A L Ph
    refine r_iload_n dX7_taken_29 rfl ?_
    refine r_iconst (v := (-1)) dX7_taken_30 rfl ?_
    refine r_icmp_eq (tgt := 49) dX7_taken_31 (by decide) (fun hqz => absurd hqz (by decide)) (fun _ => ?_)
    refine r_iload_n dX7_taken_34 rfl ?_
    refine r_iload_n dX7_taken_35 rfl ?_
    refine r_icmp_eq (tgt := 49) dX7_taken_36 (by decide) (fun b36 => ?_) (fun b36 => ?_)
    · refine r_iload_n dX7_taken_49 rfl ?_
      refine r_iconst (v := (-1)) dX7_taken_50 rfl ?_
      refine r_icmp_ne (tgt := 59) dX7_taken_51 (by decide) (fun _ => ?_) (fun hqz => absurd hqz (by decide))
      refine r_aload_n dX7_taken_59 rfl ?_
      refine r_iload_n dX7_taken_60 rfl ?_
      refine r_callV1 dX7_taken_61 lk_X7_104 (ly_38 hE) rfl (Nat.le_of_ble_eq_true rfl) (sp_X7_number hE hp ?_)
      refine r_ireturn dX7_taken_64 rfl rfl ?_
      rcases (show k = 0 ∨ k = 1 ∨ k = 2 ∨ k = 3 ∨ k = 4 ∨ k = 5 by omega) with rfl | rfl | rfl | rfl | rfl | rfl <;> first | exact hT (by decide) | exact hF (by decide) | exact absurd rfl b36 | exact absurd rfl b36_1 | exact absurd rfl b36_2 | exact absurd b36 (by decide) | exact absurd b36_1 (by decide) | exact absurd b36_2 (by decide)
    · refine r_aload_n dX7_taken_39 rfl ?_
      refine r_getR dX7_taken_40 fl_X7_75 (ly_38 hE) rfl ?_
      refine r_iload_n dX7_taken_43 rfl ?_
      refine r_rw (y := nI 4) rfl ?_
      refine r_ialdN dX7_taken_44 (ly_57 hE) (by decide) (by decide) ?_
      refine r_rw (y := 2) ((hAb 4 (by decide)).trans rfl) ?_
      refine r_istore_n (loc' := [(3, .int 2), (0, .ref 38), (1, .int (nI p)), (2, .int (nI k))]) dX7_taken_45 (by decide) rfl ?_
      refine r_goto (tgt := 29) dX7_taken_46 (by decide) ?_
      refine r_iload_n dX7_taken_29 rfl ?_
      refine r_iconst (v := (-1)) dX7_taken_30 rfl ?_
      refine r_icmp_eq (tgt := 49) dX7_taken_31 (by decide) (fun hqz => absurd hqz (by decide)) (fun _ => ?_)
      refine r_iload_n dX7_taken_34 rfl ?_
      refine r_iload_n dX7_taken_35 rfl ?_
      refine r_icmp_eq (tgt := 49) dX7_taken_36 (by decide) (fun b36_1 => ?_) (fun b36_1 => ?_)
      · refine r_iload_n dX7_taken_49 rfl ?_
        refine r_iconst (v := (-1)) dX7_taken_50 rfl ?_
        refine r_icmp_ne (tgt := 59) dX7_taken_51 (by decide) (fun _ => ?_) (fun hqz => absurd hqz (by decide))
        refine r_aload_n dX7_taken_59 rfl ?_
        refine r_iload_n dX7_taken_60 rfl ?_
        refine r_callV1 dX7_taken_61 lk_X7_104 (ly_38 hE) rfl (Nat.le_of_ble_eq_true rfl) (sp_X7_number hE hp ?_)
        refine r_ireturn dX7_taken_64 rfl rfl ?_
        rcases (show k = 0 ∨ k = 1 ∨ k = 2 ∨ k = 3 ∨ k = 4 ∨ k = 5 by omega) with rfl | rfl | rfl | rfl | rfl | rfl <;> first | exact hT (by decide) | exact hF (by decide) | exact absurd rfl b36 | exact absurd rfl b36_1 | exact absurd rfl b36_2 | exact absurd b36 (by decide) | exact absurd b36_1 (by decide) | exact absurd b36_2 (by decide)
      · refine r_aload_n dX7_taken_39 rfl ?_
        refine r_getR dX7_taken_40 fl_X7_75 (ly_38 hE) rfl ?_
        refine r_iload_n dX7_taken_43 rfl ?_
        refine r_rw (y := nI 2) rfl ?_
        refine r_ialdN dX7_taken_44 (ly_57 hE) (by decide) (by decide) ?_
        refine r_rw (y := 0) ((hAb 2 (by decide)).trans rfl) ?_
        refine r_istore_n (loc' := [(3, .int 0), (0, .ref 38), (1, .int (nI p)), (2, .int (nI k))]) dX7_taken_45 (by decide) rfl ?_
        refine r_goto (tgt := 29) dX7_taken_46 (by decide) ?_
        refine r_iload_n dX7_taken_29 rfl ?_
        refine r_iconst (v := (-1)) dX7_taken_30 rfl ?_
        refine r_icmp_eq (tgt := 49) dX7_taken_31 (by decide) (fun hqz => absurd hqz (by decide)) (fun _ => ?_)
        refine r_iload_n dX7_taken_34 rfl ?_
        refine r_iload_n dX7_taken_35 rfl ?_
        refine r_icmp_eq (tgt := 49) dX7_taken_36 (by decide) (fun b36_2 => ?_) (fun b36_2 => ?_)
        · refine r_iload_n dX7_taken_49 rfl ?_
          refine r_iconst (v := (-1)) dX7_taken_50 rfl ?_
          refine r_icmp_ne (tgt := 59) dX7_taken_51 (by decide) (fun _ => ?_) (fun hqz => absurd hqz (by decide))
          refine r_aload_n dX7_taken_59 rfl ?_
          refine r_iload_n dX7_taken_60 rfl ?_
          refine r_callV1 dX7_taken_61 lk_X7_104 (ly_38 hE) rfl (Nat.le_of_ble_eq_true rfl) (sp_X7_number hE hp ?_)
          refine r_ireturn dX7_taken_64 rfl rfl ?_
          rcases (show k = 0 ∨ k = 1 ∨ k = 2 ∨ k = 3 ∨ k = 4 ∨ k = 5 by omega) with rfl | rfl | rfl | rfl | rfl | rfl <;> first | exact hT (by decide) | exact hF (by decide) | exact absurd rfl b36 | exact absurd rfl b36_1 | exact absurd rfl b36_2 | exact absurd b36 (by decide) | exact absurd b36_1 (by decide) | exact absurd b36_2 (by decide)
        · refine r_aload_n dX7_taken_39 rfl ?_
          refine r_getR dX7_taken_40 fl_X7_75 (ly_38 hE) rfl ?_
          refine r_iload_n dX7_taken_43 rfl ?_
          refine r_rw (y := nI 0) rfl ?_
          refine r_ialdN dX7_taken_44 (ly_57 hE) (by decide) (by decide) ?_
          refine r_rw (y := (-1)) ((hAb 0 (by decide)).trans rfl) ?_
          refine r_istore_n (loc' := [(3, .int (-1)), (0, .ref 38), (1, .int (nI p)), (2, .int (nI k))]) dX7_taken_45 (by decide) rfl ?_
          refine r_goto (tgt := 29) dX7_taken_46 (by decide) ?_
          refine r_iload_n dX7_taken_29 rfl ?_
          refine r_iconst (v := (-1)) dX7_taken_30 rfl ?_
          refine r_icmp_eq (tgt := 49) dX7_taken_31 (by decide) (fun _ => ?_) (fun hqz => absurd (by decide) hqz)
          refine r_iload_n dX7_taken_49 rfl ?_
          refine r_iconst (v := (-1)) dX7_taken_50 rfl ?_
          refine r_icmp_ne (tgt := 59) dX7_taken_51 (by decide) (fun hqz => absurd (by decide) hqz) (fun _ => ?_)
          refine r_bipush (v := (-13)) dX7_taken_54 rfl ?_
          refine r_goto (tgt := 64) dX7_taken_56 (by decide) ?_
          refine r_ireturn dX7_taken_64 rfl rfl ?_
          rcases (show k = 0 ∨ k = 1 ∨ k = 2 ∨ k = 3 ∨ k = 4 ∨ k = 5 by omega) with rfl | rfl | rfl | rfl | rfl | rfl <;> first | exact hT (by decide) | exact hF (by decide) | exact absurd rfl b36 | exact absurd rfl b36_1 | exact absurd rfl b36_2 | exact absurd b36 (by decide) | exact absurd b36_1 (by decide) | exact absurd b36_2 (by decide)
  · show qG E mm_X7_taken (d + 1) 29 [(3, .int 5), (0, .ref 38), (1, .int (nI p)), (2, .int (nI k))] [] A L Ph
    refine r_iload_n dX7_taken_29 rfl ?_
    refine r_iconst (v := (-1)) dX7_taken_30 rfl ?_
    refine r_icmp_eq (tgt := 49) dX7_taken_31 (by decide) (fun hqz => absurd hqz (by decide)) (fun _ => ?_)
    refine r_iload_n dX7_taken_34 rfl ?_
    refine r_iload_n dX7_taken_35 rfl ?_
    refine r_icmp_eq (tgt := 49) dX7_taken_36 (by decide) (fun b36 => ?_) (fun b36 => ?_)
    · refine r_iload_n dX7_taken_49 rfl ?_
      refine r_iconst (v := (-1)) dX7_taken_50 rfl ?_
      refine r_icmp_ne (tgt := 59) dX7_taken_51 (by decide) (fun _ => ?_) (fun hqz => absurd hqz (by decide))
      refine r_aload_n dX7_taken_59 rfl ?_
      refine r_iload_n dX7_taken_60 rfl ?_
      refine r_callV1 dX7_taken_61 lk_X7_104 (ly_38 hE) rfl (Nat.le_of_ble_eq_true rfl) (sp_X7_number hE hp ?_)
      refine r_ireturn dX7_taken_64 rfl rfl ?_
      rcases (show k = 0 ∨ k = 1 ∨ k = 2 ∨ k = 3 ∨ k = 4 ∨ k = 5 by omega) with rfl | rfl | rfl | rfl | rfl | rfl <;> first | exact hT (by decide) | exact hF (by decide) | exact absurd rfl b36 | exact absurd rfl b36_1 | exact absurd rfl b36_2 | exact absurd b36 (by decide) | exact absurd b36_1 (by decide) | exact absurd b36_2 (by decide)
    · refine r_aload_n dX7_taken_39 rfl ?_
      refine r_getR dX7_taken_40 fl_X7_75 (ly_38 hE) rfl ?_
      refine r_iload_n dX7_taken_43 rfl ?_
      refine r_rw (y := nI 5) rfl ?_
      refine r_ialdN dX7_taken_44 (ly_57 hE) (by decide) (by decide) ?_
      refine r_rw (y := 0) ((hAb 5 (by decide)).trans rfl) ?_
      refine r_istore_n (loc' := [(3, .int 0), (0, .ref 38), (1, .int (nI p)), (2, .int (nI k))]) dX7_taken_45 (by decide) rfl ?_
      refine r_goto (tgt := 29) dX7_taken_46 (by decide) ?_
      refine r_iload_n dX7_taken_29 rfl ?_
      refine r_iconst (v := (-1)) dX7_taken_30 rfl ?_
      refine r_icmp_eq (tgt := 49) dX7_taken_31 (by decide) (fun hqz => absurd hqz (by decide)) (fun _ => ?_)
      refine r_iload_n dX7_taken_34 rfl ?_
      refine r_iload_n dX7_taken_35 rfl ?_
      refine r_icmp_eq (tgt := 49) dX7_taken_36 (by decide) (fun b36_1 => ?_) (fun b36_1 => ?_)
      · refine r_iload_n dX7_taken_49 rfl ?_
        refine r_iconst (v := (-1)) dX7_taken_50 rfl ?_
        refine r_icmp_ne (tgt := 59) dX7_taken_51 (by decide) (fun _ => ?_) (fun hqz => absurd hqz (by decide))
        refine r_aload_n dX7_taken_59 rfl ?_
        refine r_iload_n dX7_taken_60 rfl ?_
        refine r_callV1 dX7_taken_61 lk_X7_104 (ly_38 hE) rfl (Nat.le_of_ble_eq_true rfl) (sp_X7_number hE hp ?_)
        refine r_ireturn dX7_taken_64 rfl rfl ?_
        rcases (show k = 0 ∨ k = 1 ∨ k = 2 ∨ k = 3 ∨ k = 4 ∨ k = 5 by omega) with rfl | rfl | rfl | rfl | rfl | rfl <;> first | exact hT (by decide) | exact hF (by decide) | exact absurd rfl b36 | exact absurd rfl b36_1 | exact absurd rfl b36_2 | exact absurd b36 (by decide) | exact absurd b36_1 (by decide) | exact absurd b36_2 (by decide)
      · refine r_aload_n dX7_taken_39 rfl ?_
        refine r_getR dX7_taken_40 fl_X7_75 (ly_38 hE) rfl ?_
        refine r_iload_n dX7_taken_43 rfl ?_
        refine r_rw (y := nI 0) rfl ?_
        refine r_ialdN dX7_taken_44 (ly_57 hE) (by decide) (by decide) ?_
        refine r_rw (y := (-1)) ((hAb 0 (by decide)).trans rfl) ?_
        refine r_istore_n (loc' := [(3, .int (-1)), (0, .ref 38), (1, .int (nI p)), (2, .int (nI k))]) dX7_taken_45 (by decide) rfl ?_
        refine r_goto (tgt := 29) dX7_taken_46 (by decide) ?_
        refine r_iload_n dX7_taken_29 rfl ?_
        refine r_iconst (v := (-1)) dX7_taken_30 rfl ?_
        refine r_icmp_eq (tgt := 49) dX7_taken_31 (by decide) (fun _ => ?_) (fun hqz => absurd (by decide) hqz)
        refine r_iload_n dX7_taken_49 rfl ?_
        refine r_iconst (v := (-1)) dX7_taken_50 rfl ?_
        refine r_icmp_ne (tgt := 59) dX7_taken_51 (by decide) (fun hqz => absurd (by decide) hqz) (fun _ => ?_)
        refine r_bipush (v := (-13)) dX7_taken_54 rfl ?_
        refine r_goto (tgt := 64) dX7_taken_56 (by decide) ?_
        refine r_ireturn dX7_taken_64 rfl rfl ?_
        rcases (show k = 0 ∨ k = 1 ∨ k = 2 ∨ k = 3 ∨ k = 4 ∨ k = 5 by omega) with rfl | rfl | rfl | rfl | rfl | rfl <;> first | exact hT (by decide) | exact hF (by decide) | exact absurd rfl b36 | exact absurd rfl b36_1 | exact absurd rfl b36_2 | exact absurd b36 (by decide) | exact absurd b36_1 (by decide) | exact absurd b36_2 (by decide)
set_option maxRecDepth 100000 in
set_option maxHeartbeats 4000000 in
theorem op_taken (hE : hM E) (hW : WfS S T n z) (pv kv : Int32) : OpOK E (d + 3) mm_X6_taken mm_X7_taken [.int pv, .int kv] S T n z := by
  have hEc := hE.c
  have hN := hW.2.2.2.2.1
  have hn := hN.1
  have h60 := hN.2.1
  rcases pk_cases kv 6 with ⟨k, hk6, rfl⟩ | hv
  · rcases pk_cases pv n with ⟨p, hp, rfl⟩ | hv
    · obtain ⟨kk, hkk, ek⟩ := (hN.2.2.2.2.1 p hp).1
      have hp5 : p < 5 := by omega
      refine ⟨.int (if undF kk k = true then S 39 (41 + 4 * p) else -13), S, T, n, z, ⟨_, rfl⟩, hW, fun A L Ph hR hk => ?_, fun A L Ph hR hk => ?_⟩
      · have K := hk A L hR (fun _ _ => rfl)
        refine qC.enter (by decide) (Nat.le_of_ble_eq_true rfl) ?_
        refine r_iload_n dX6_taken_0 rfl ?_
        refine r_bipush (v := 6) dX6_taken_1 rfl ?_
        refine r_callS2 dX6_taken_3 lk_X6_100 (Nat.le_of_ble_eq_true rfl) (win_t (lim := 6) rfl (by decide) hk6 ?_)
        refine r_if_ne (tgt := 12) dX6_taken_6 (by decide) (fun _ => ?_) (fun hqz => absurd hqz (by decide))
        refine r_aload_n dX6_taken_12 rfl ?_
        refine r_getR dX6_taken_13 fl_X6_10 (ly_0 hEc) rfl ?_
        refine r_iload_n dX6_taken_16 rfl ?_
        refine r_callV1 dX6_taken_17 lk_X6_125 (ly_1 hEc) rfl (Nat.le_of_ble_eq_true rfl) (has_t hEc hn (hR.1.2.2.1.trans h60) hp ?_)
        refine r_if_ne (tgt := 26) dX6_taken_20 (by decide) (fun _ => ?_) (fun hqz => absurd hqz (by decide))
        refine r_aload_n dX6_taken_26 rfl ?_
        refine r_getR dX6_taken_27 fl_X6_10 (ly_0 hEc) rfl ?_
        refine r_getR dX6_taken_30 fl_X6_115 (ly_1 hEc) rfl ?_
        refine r_iload_n dX6_taken_33 rfl ?_
        refine r_ialdN dX6_taken_34 (ly_13 hEc) (by omega) (by decide) ?_
        refine r_rw (y := nI kk) ((hR.1.2.1 p hp).1.trans ek) ?_
        refine r_iload_n dX6_taken_35 rfl ?_
        refine r_callS2 dX6_taken_36 lk_X6_325 (Nat.le_of_ble_eq_true rfl) (sp_X6_isUnder hkk hk6 (fun hu => ?_) (fun hu => ?_))
        · refine r_if_eq (tgt := 54) dX6_taken_39 (by decide) (fun hqz => absurd hqz (by decide)) (fun _ => ?_)
          refine r_aload_n dX6_taken_42 rfl ?_
          refine r_getR dX6_taken_43 fl_X6_10 (ly_0 hEc) rfl ?_
          refine r_getR dX6_taken_46 fl_X6_90 (ly_1 hEc) rfl ?_
          refine r_iload_n dX6_taken_49 rfl ?_
          refine r_ialdN dX6_taken_50 (ly_14 hEc) (by omega) (by decide) ?_
          refine r_rw (y := S 39 (41 + 4 * p)) (hR.1.2.1 p hp).2.1 ?_
          refine r_goto (tgt := 56) dX6_taken_51 (by decide) ?_
          refine r_ireturn dX6_taken_56 rfl rfl ?_
          first | rwa [if_pos hu] at K | rwa [if_neg (by rw [hu]; decide)] at K
        · refine r_if_eq (tgt := 54) dX6_taken_39 (by decide) (fun _ => ?_) (fun hqz => absurd (by decide) hqz)
          refine r_bipush (v := (-13)) dX6_taken_54 rfl ?_
          refine r_ireturn dX6_taken_56 rfl rfl ?_
          first | rwa [if_pos hu] at K | rwa [if_neg (by rw [hu]; decide)] at K
      · have K := hk A L hR (fun _ _ => rfl)
        refine qC.enter (by decide) (Nat.le_of_ble_eq_true rfl) ?_
        refine r_iload_n dX7_taken_0 rfl ?_
        refine r_iconst (v := 0) dX7_taken_1 rfl ?_
        refine r_iconst (v := 5) dX7_taken_2 rfl ?_
        refine r_callS3 dX7_taken_3 lk_X7_78 (Nat.le_of_ble_eq_true rfl) (in_t (lim := 6) rfl rfl (by decide) hk6 ?_)
        refine r_if_ne (tgt := 12) dX7_taken_6 (by decide) (fun _ => ?_) (fun hqz => absurd hqz (by decide))
        refine r_aload_n dX7_taken_12 rfl ?_
        refine r_iload_n dX7_taken_13 rfl ?_
        refine r_callV1 dX7_taken_14 lk_X7_82 (ly_38 hE) rfl (Nat.le_of_ble_eq_true rfl) (isP_t hE hn (by rw [hR.1]; exact h60) hp ?_)
        refine r_if_ne (tgt := 23) dX7_taken_17 (by decide) (fun _ => ?_) (fun hqz => absurd hqz (by decide))
        refine r_aload_n dX7_taken_23 rfl ?_
        refine r_iload_n dX7_taken_24 rfl ?_
        refine r_callV1 dX7_taken_25 lk_X7_107 (ly_38 hE) rfl (Nat.le_of_ble_eq_true rfl) (sp_X7_kind hE hp5 ?_)
        refine r_rw (y := nI kk) (by rw [hR.1]; exact ek) ?_
        refine r_istore_n (loc' := [(3, .int (nI kk)), (0, .ref 38), (1, .int (nI p)), (2, .int (nI k))]) dX7_taken_28 (by decide) rfl ?_
        exact tk_loop hE hkk hk6 hp5 hR.2.2.2.2.2.2.2.2.2.2.2.2 (fun hu => by rw [if_pos hu] at K; rw [hR.1]; exact K) (fun hu => by rw [if_neg (by rw [hu]; decide)] at K; exact K)
    · refine ⟨.int (-11), S, T, n, z, ⟨_, rfl⟩, hW, fun A L Ph hR hk => ?_, fun A L Ph hR hk => ?_⟩
      · have K := hk A L hR (fun _ _ => rfl)
        refine qC.enter (by decide) (Nat.le_of_ble_eq_true rfl) ?_
        refine r_iload_n dX6_taken_0 rfl ?_
        refine r_bipush (v := 6) dX6_taken_1 rfl ?_
        refine r_callS2 dX6_taken_3 lk_X6_100 (Nat.le_of_ble_eq_true rfl) (win_t (lim := 6) rfl (by decide) hk6 ?_)
        refine r_if_ne (tgt := 12) dX6_taken_6 (by decide) (fun _ => ?_) (fun hqz => absurd hqz (by decide))
        refine r_aload_n dX6_taken_12 rfl ?_
        refine r_getR dX6_taken_13 fl_X6_10 (ly_0 hEc) rfl ?_
        refine r_iload_n dX6_taken_16 rfl ?_
        refine r_callV1 dX6_taken_17 lk_X6_125 (ly_1 hEc) rfl (Nat.le_of_ble_eq_true rfl) (has_f hEc hn (hR.1.2.2.1.trans h60) hv ?_)
        refine r_if_ne (tgt := 26) dX6_taken_20 (by decide) (fun hqz => absurd (by decide) hqz) (fun _ => ?_)
        refine r_bipush (v := (-11)) dX6_taken_23 rfl ?_
        refine r_ireturn dX6_taken_25 rfl rfl ?_
        exact K
      · have K := hk A L hR (fun _ _ => rfl)
        refine qC.enter (by decide) (Nat.le_of_ble_eq_true rfl) ?_
        refine r_iload_n dX7_taken_0 rfl ?_
        refine r_iconst (v := 0) dX7_taken_1 rfl ?_
        refine r_iconst (v := 5) dX7_taken_2 rfl ?_
        refine r_callS3 dX7_taken_3 lk_X7_78 (Nat.le_of_ble_eq_true rfl) (in_t (lim := 6) rfl rfl (by decide) hk6 ?_)
        refine r_if_ne (tgt := 12) dX7_taken_6 (by decide) (fun _ => ?_) (fun hqz => absurd hqz (by decide))
        refine r_aload_n dX7_taken_12 rfl ?_
        refine r_iload_n dX7_taken_13 rfl ?_
        refine r_callV1 dX7_taken_14 lk_X7_82 (ly_38 hE) rfl (Nat.le_of_ble_eq_true rfl) (isP_f hE hn (by rw [hR.1]; exact h60) hv ?_)
        refine r_if_ne (tgt := 23) dX7_taken_17 (by decide) (fun hqz => absurd (by decide) hqz) (fun _ => ?_)
        refine r_bipush (v := (-11)) dX7_taken_20 rfl ?_
        refine r_ireturn dX7_taken_22 rfl rfl ?_
        exact K
  · refine ⟨.int (-2), S, T, n, z, ⟨_, rfl⟩, hW, fun A L Ph hR hk => ?_, fun A L Ph hR hk => ?_⟩
    · have K := hk A L hR (fun _ _ => rfl)
      refine qC.enter (by decide) (Nat.le_of_ble_eq_true rfl) ?_
      refine r_iload_n dX6_taken_0 rfl ?_
      refine r_bipush (v := 6) dX6_taken_1 rfl ?_
      refine r_callS2 dX6_taken_3 lk_X6_100 (Nat.le_of_ble_eq_true rfl) (win_f 6 rfl (by decide) hv ?_)
      refine r_if_ne (tgt := 12) dX6_taken_6 (by decide) (fun hqz => absurd (by decide) hqz) (fun _ => ?_)
      refine r_bipush (v := (-2)) dX6_taken_9 rfl ?_
      refine r_ireturn dX6_taken_11 rfl rfl ?_
      exact K
    · have K := hk A L hR (fun _ _ => rfl)
      refine qC.enter (by decide) (Nat.le_of_ble_eq_true rfl) ?_
      refine r_iload_n dX7_taken_0 rfl ?_
      refine r_iconst (v := 0) dX7_taken_1 rfl ?_
      refine r_iconst (v := 5) dX7_taken_2 rfl ?_
      refine r_callS3 dX7_taken_3 lk_X7_78 (Nat.le_of_ble_eq_true rfl) (in_f 6 rfl rfl (by decide) hv ?_)
      refine r_if_ne (tgt := 12) dX7_taken_6 (by decide) (fun hqz => absurd (by decide) hqz) (fun _ => ?_)
      refine r_bipush (v := (-2)) dX7_taken_9 rfl ?_
      refine r_ireturn dX7_taken_11 rfl rfl ?_
      exact K
end OPS10
