/-! who sees furthest, and how far -/
def sP (S : mA) (p : Nat) : Int32 := farP S p (anP S p)
/-- of the first i the first that sees furthest, and how far -/
def fbF (f : Nat → Int32) : Nat → Int32 × Int32
  | 0 => (-1, -1)
  | i + 1 => if (fbF f i).2 < f i then (nI i, f i) else fbF f i
theorem fbF_ok (f : Nat → Int32) (hf : ∀ i, ∃ j, j ≤ 40 ∧ f i = nI j) : ∀ n, (n = 0 ∧ fbF f n = (-1, -1)) ∨ ∃ j, j < n ∧ fbF f n = (nI j, f j) := by
  intro n
  induction n with
  | zero => exact Or.inl ⟨rfl, rfl⟩
  | succ n ih =>
    right
    rw [fbF]
    by_cases q : (fbF f n).2 < f n
    · rw [if_pos q]; exact ⟨n, by omega, rfl⟩
    · rw [if_neg q]
      rcases ih with ⟨_, e⟩ | ⟨j, hj, e⟩
      · rw [e] at q
        obtain ⟨j, hj, e'⟩ := hf n
        rw [e'] at q
        refine absurd ?_ q
        show (-1 : Int32) < nI j
        rw [i_lt, nI_toInt (by omega), m1_lits.1]
        omega
      · exact ⟨j, by omega, e⟩
theorem fbF_cong {f g : Nat → Int32} : ∀ n, (∀ i, i < n → f i = g i) → fbF f n = fbF g n := by
  intro n
  induction n with
  | zero => intro _; rfl
  | succ n ih =>
    intro e
    rw [fbF, fbF, ih (fun i hi => e i (by omega)), e n (by omega)]
theorem i_nle {a b : Int32} (h : a ≤ b) : ¬ b < a := by rw [i_lt]; rw [i_le] at h; omega
theorem i_ngt {a b : Int32} (h : ¬ a ≤ b) : b < a := by rw [i_lt]; rw [i_le] at h; omega
/-- how far the view is -/
def sgF (S : mA) (n : Nat) : Int32 := if n = 0 then 0 else (fbF (sP S) n).2
section VIEW
variable {E : mE} {d : Nat} {A S : mA} {L : mJ} {Ph : mP} {T n z p : Nat}
theorem sP_ok (hW : WfS S T n z) (hp : p < n) : ∃ j, j ≤ 40 ∧ sP S p = nI j := far_ok hW hp _
theorem f45 {A A' : mA} (h : Fr [5, 24, 26] A A') : Fr xC A A' := h.mo (by decide)
set_option maxRecDepth 100000 in
set_option maxHeartbeats 1000000 in
theorem sp_farNow (hE : hC E) (hW : WfS S T n z) (hR : RC A S T n z) (hp : p < n) (h : ∀ A', Fr [5, 24, 26] A A' → Ph (some (.int (sP S p))) A' L) : qC E mm_X6_farNow (d + 3) [.ref 0, .int (nI p)] A L Ph := by
  refine qC.enter (by decide) (Nat.le_of_ble_eq_true rfl) ?_
  refine r_aload_n dX6_farNow_0 rfl ?_
  refine r_getR dX6_farNow_1 fl_X6_38 (ly_0 hE) rfl ?_
  refine r_aload_n dX6_farNow_4 rfl ?_
  refine r_getR dX6_farNow_5 fl_X6_10 (ly_0 hE) rfl ?_
  refine r_iload_n dX6_farNow_8 rfl ?_
  refine r_callV2 dX6_farNow_9 lk_X6_128 (ly_5 hE) rfl (Nat.le_of_ble_eq_true rfl) (co_of hE hW hR hp (fun A1 f1 hc hR1 => ?_))
  refine r_aload_n dX6_farNow_12 rfl ?_
  refine r_getR dX6_farNow_13 fl_X6_38 (ly_0 hE) rfl ?_
  refine r_aload_n dX6_farNow_16 rfl ?_
  refine r_getR dX6_farNow_17 fl_X6_10 (ly_0 hE) rfl ?_
  refine r_iload_n dX6_farNow_20 rfl ?_
  refine r_callV1 dX6_farNow_21 lk_X6_132 (ly_1 hE) rfl (Nat.le_of_ble_eq_true rfl) (co_an hE hW hR1 hp ?_)
  refine r_callV1 dX6_farNow_24 lk_X6_138 (ly_5 hE) rfl (Nat.le_of_ble_eq_true rfl) (sp_X4_far hc (fun A2 f2 => ?_))
  refine r_ireturn dX6_farNow_27 rfl rfl ?_
  exact h A2 (Fr.tr (f1.mo (by decide)) f2.t)
set_option maxRecDepth 100000 in
set_option maxHeartbeats 1000000 in
theorem sp_sees (hE : hM E) (hW : WfS S T n z) (hR : RM A S T) (hp : p < n) (h : ∀ A', FM A A' → Ph (some (.int (sP S p))) A' L) : qC E mm_X7_sees (d + 4) [.ref 38, .int (nI p)] A L Ph := by
  refine qC.enter (by decide) (Nat.le_of_ble_eq_true rfl) ?_
  refine r_aload_n dX7_sees_0 rfl ?_
  refine r_iload_n dX7_sees_1 rfl ?_
  refine r_callV1 dX7_sees_2 lk_X7_97 (ly_38 hE) rfl (Nat.le_of_ble_eq_true rfl) (mo_take hE hW hR hp (fun A1 f1 fm hm => ?_))
  refine r_aload_n dX7_sees_5 rfl ?_
  refine r_aload_n dX7_sees_6 rfl ?_
  refine r_iload_n dX7_sees_7 rfl ?_
  refine r_callV1 dX7_sees_8 lk_X7_101 (ly_38 hE) rfl (Nat.le_of_ble_eq_true rfl) (mo_an hE hW hm.rm hp ?_)
  refine r_callV1 dX7_sees_11 lk_X7_113 (ly_38 hE) rfl (Nat.le_of_ble_eq_true rfl) (sp_X7_far hm (fun A2 f2 => ?_))
  refine r_ireturn dX7_sees_14 rfl rfl ?_
  exact h A2 (fm.tr (fm46 f2))
set_option maxRecDepth 100000 in
set_option maxHeartbeats 1000000 in
theorem cfp_loop (hE : hC E) (hW : WfS S T n z) : ∀ (k i : Nat) (A : mA), i + k = n → RC A S T n z → (∀ A', Fr [5, 24, 26] A A' → Ph (some (.int (fbF (sP S) n).1)) A' L) → qG E mm_X6_furthestPair (d + 4) 6 [(3, .int (nI i)), (2, .int (fbF (sP S) i).2), (1, .int (fbF (sP S) i).1), (0, .ref 0)] [] A L Ph := by
  have hn := hW.2.2.2.2.1.1
  intro k
  induction k with
  | zero =>
    intro i A hi hR h
    have hi : i = n := by omega
    rw [hi]
    refine r_iload_n dX6_furthestPair_6 rfl ?_
    refine r_aload_n dX6_furthestPair_7 rfl ?_
    refine r_getR dX6_furthestPair_8 fl_X6_10 (ly_0 hE) rfl ?_
    refine r_getI dX6_furthestPair_11 fl_X6_93 (ly_1 hE) rfl ?_
    refine r_rw (y := nI n) (hR.1.2.2.1.trans hW.2.2.2.2.1.2.1) ?_
    refine r_icmp_ge (tgt := 41) dX6_furthestPair_14 (by decide) (fun _ => ?_) (fun hqz => absurd (nI_le (Nat.le_refl _) (by omega)) hqz)
    refine r_iload_n dX6_furthestPair_41 rfl ?_
    refine r_ireturn dX6_furthestPair_42 rfl rfl ?_
    exact h A Fr.rf
  | succ k ih =>
    intro i A hi hR h
    have hs := ih (i + 1)
    rw [fbF] at hs
    generalize fbF (sP S) i = q at *
    generalize eq2 : q.2 = qm at *
    generalize eq1 : q.1 = qb at *
    refine r_iload_n dX6_furthestPair_6 rfl ?_
    refine r_aload_n dX6_furthestPair_7 rfl ?_
    refine r_getR dX6_furthestPair_8 fl_X6_10 (ly_0 hE) rfl ?_
    refine r_getI dX6_furthestPair_11 fl_X6_93 (ly_1 hE) rfl ?_
    refine r_rw (y := nI n) (hR.1.2.2.1.trans hW.2.2.2.2.1.2.1) ?_
    refine r_icmp_ge (tgt := 41) dX6_furthestPair_14 (by decide) (fun hqz => absurd hqz (nI_ge (show i < n by omega) (by omega))) (fun _ => ?_)
    refine r_aload_n dX6_furthestPair_17 rfl ?_
    refine r_iload_n dX6_furthestPair_18 rfl ?_
    refine r_callV1 dX6_furthestPair_19 lk_X6_198 (ly_0 hE) rfl (Nat.le_of_ble_eq_true rfl) (sp_farNow hE hW hR (show i < n by omega) (fun A1 f1 => ?_))
    refine r_topi (fun v22 e22 => ?_)
    refine r_istore (loc' := [(4, .int v22), (3, .int (nI i)), (2, .int qm), (1, .int qb), (0, .ref 0)]) dX6_furthestPair_22 (by decide) rfl ?_
    refine r_iload dX6_furthestPair_24 rfl ?_
    refine r_iload_n dX6_furthestPair_26 rfl ?_
    refine r_icmp_le (tgt := 35) dX6_furthestPair_27 (by decide) (fun b27 => ?_) (fun b27 => ?_)
    · refine r_iinc (v := (nI (i + 1))) (loc' := [(3, .int (nI (i + 1))), (4, .int v22), (2, .int qm), (1, .int qb), (0, .ref 0)]) dX6_furthestPair_35 rfl ((nI_succ _).symm) (by decide) rfl ?_
      refine r_goto (tgt := 6) dX6_furthestPair_38 (by decide) ?_
      refine qG.pick [0, 2, 3, 4] rfl ?_
      have K := hs A1 (by omega) (hR.fr (f45 f1)) (fun A2 f2 => h A2 (f1.tr f2))
      subst e22
      first | (rw [if_neg (i_nle b27)] at K; rw [eq1, eq2] at K; exact K) | (rw [if_pos (i_ngt b27)] at K; exact K)
    · refine r_iload dX6_furthestPair_30 rfl ?_
      refine r_istore_n (loc' := [(2, .int v22), (4, .int v22), (3, .int (nI i)), (1, .int qb), (0, .ref 0)]) dX6_furthestPair_32 (by decide) rfl ?_
      refine r_iload_n dX6_furthestPair_33 rfl ?_
      refine r_istore_n (loc' := [(1, .int (nI i)), (2, .int v22), (4, .int v22), (3, .int (nI i)), (0, .ref 0)]) dX6_furthestPair_34 (by decide) rfl ?_
      refine r_iinc (v := (nI (i + 1))) (loc' := [(3, .int (nI (i + 1))), (1, .int (nI i)), (2, .int v22), (4, .int v22), (0, .ref 0)]) dX6_furthestPair_35 rfl ((nI_succ _).symm) (by decide) rfl ?_
      refine r_goto (tgt := 6) dX6_furthestPair_38 (by decide) ?_
      refine qG.pick [0, 2, 1, 4] rfl ?_
      have K := hs A1 (by omega) (hR.fr (f45 f1)) (fun A2 f2 => h A2 (f1.tr f2))
      subst e22
      first | (rw [if_neg (i_nle b27)] at K; rw [eq1, eq2] at K; exact K) | (rw [if_pos (i_ngt b27)] at K; exact K)
set_option maxRecDepth 100000 in
set_option maxHeartbeats 1000000 in
theorem mfp_loop (hE : hM E) (hW : WfS S T n z) : ∀ (k i : Nat) (A : mA), i + k = n → RM A S T → (∀ A', FM A A' → Ph (some (.int (fbF (sP S) n).1)) A' L) → qG E mm_X7_furthest (d + 5) 6 [(3, .int (nI i)), (2, .int (fbF (sP S) i).2), (1, .int (fbF (sP S) i).1), (0, .ref 38)] [] A L Ph := by
  have hn := hW.2.2.2.2.1.1
  have h60 := hW.2.2.2.2.1.2.1
  intro k
  induction k with
  | zero =>
    intro i A hi hR h
    have hi : i = n := by omega
    rw [hi]
    refine r_iload_n dX7_furthest_6 rfl ?_
    refine r_aload_n dX7_furthest_7 rfl ?_
    refine r_callV0 dX7_furthest_8 lk_X7_94 (ly_38 hE) rfl (Nat.le_of_ble_eq_true rfl) (sp_X7_many hE ?_)
    refine r_rw (y := nI n) (by rw [hR.1]; exact h60) ?_
    refine r_icmp_ge (tgt := 52) dX7_furthest_11 (by decide) (fun _ => ?_) (fun hqz => absurd (nI_le (Nat.le_refl _) (by omega)) hqz)
    refine r_iload_n dX7_furthest_52 rfl ?_
    refine r_ireturn dX7_furthest_53 rfl rfl ?_
    exact h A FM.rf
  | succ k ih =>
    intro i A hi hR h
    have hs := ih (i + 1)
    rw [fbF] at hs
    generalize fbF (sP S) i = q at *
    generalize eq2 : q.2 = qm at *
    generalize eq1 : q.1 = qb at *
    refine r_iload_n dX7_furthest_6 rfl ?_
    refine r_aload_n dX7_furthest_7 rfl ?_
    refine r_callV0 dX7_furthest_8 lk_X7_94 (ly_38 hE) rfl (Nat.le_of_ble_eq_true rfl) (sp_X7_many hE ?_)
    refine r_rw (y := nI n) (by rw [hR.1]; exact h60) ?_
    refine r_icmp_ge (tgt := 52) dX7_furthest_11 (by decide) (fun hqz => absurd hqz (nI_ge (show i < n by omega) (by omega))) (fun _ => ?_)
    refine r_aload_n dX7_furthest_14 rfl ?_
    refine r_iload_n dX7_furthest_15 rfl ?_
    refine r_callV1 dX7_furthest_16 lk_X7_218 (ly_38 hE) rfl (Nat.le_of_ble_eq_true rfl) (sp_sees hE hW hR (show i < n by omega) (fun A1 f1 => ?_))
    refine r_topi (fun v19 e19 => ?_)
    refine r_istore (loc' := [(4, .int v19), (3, .int (nI i)), (2, .int qm), (1, .int qb), (0, .ref 38)]) dX7_furthest_19 (by decide) rfl ?_
    refine r_iload dX7_furthest_21 rfl ?_
    refine r_iload_n dX7_furthest_23 rfl ?_
    refine r_icmp_le (tgt := 31) dX7_furthest_24 (by decide) (fun b24 => ?_) (fun b24 => ?_)
    · refine r_iload_n dX7_furthest_31 rfl ?_
      refine r_istore_n (loc' := [(1, .int qb), (4, .int v19), (3, .int (nI i)), (2, .int qm), (0, .ref 38)]) dX7_furthest_32 (by decide) rfl ?_
      refine r_iload dX7_furthest_33 rfl ?_
      refine r_iload_n dX7_furthest_35 rfl ?_
      refine r_icmp_le (tgt := 44) dX7_furthest_36 (by decide) (fun b36 => ?_) (fun b36 => ?_)
      · refine r_iload_n dX7_furthest_44 rfl ?_
        refine r_istore_n (loc' := [(2, .int qm), (1, .int qb), (4, .int v19), (3, .int (nI i)), (0, .ref 38)]) dX7_furthest_45 (by decide) rfl ?_
        refine r_iinc (v := (nI (i + 1))) (loc' := [(3, .int (nI (i + 1))), (2, .int qm), (1, .int qb), (4, .int v19), (0, .ref 38)]) dX7_furthest_46 rfl ((nI_succ _).symm) (by decide) rfl ?_
        refine r_goto (tgt := 6) dX7_furthest_49 (by decide) ?_
        refine qG.pick [0, 1, 2, 4] rfl ?_
        have K := hs A1 (by omega) (hR.fm f1) (fun A2 f2 => h A2 (f1.tr f2))
        subst e19
        first | exact absurd b36 b24 | exact absurd b24 b36 | (rw [if_neg (i_nle b24)] at K; rw [eq1, eq2] at K; exact K) | (rw [if_pos (i_ngt b24)] at K; exact K)
      · refine r_iload dX7_furthest_39 rfl ?_
        refine r_goto (tgt := 45) dX7_furthest_41 (by decide) ?_
        refine r_istore_n (loc' := [(2, .int v19), (1, .int qb), (4, .int v19), (3, .int (nI i)), (0, .ref 38)]) dX7_furthest_45 (by decide) rfl ?_
        refine r_iinc (v := (nI (i + 1))) (loc' := [(3, .int (nI (i + 1))), (2, .int v19), (1, .int qb), (4, .int v19), (0, .ref 38)]) dX7_furthest_46 rfl ((nI_succ _).symm) (by decide) rfl ?_
        refine r_goto (tgt := 6) dX7_furthest_49 (by decide) ?_
        refine qG.pick [0, 1, 2, 4] rfl ?_
        have K := hs A1 (by omega) (hR.fm f1) (fun A2 f2 => h A2 (f1.tr f2))
        subst e19
        first | exact absurd b36 b24 | exact absurd b24 b36 | (rw [if_neg (i_nle b24)] at K; rw [eq1, eq2] at K; exact K) | (rw [if_pos (i_ngt b24)] at K; exact K)
    · refine r_iload_n dX7_furthest_27 rfl ?_
      refine r_goto (tgt := 32) dX7_furthest_28 (by decide) ?_
      refine r_istore_n (loc' := [(1, .int (nI i)), (4, .int v19), (3, .int (nI i)), (2, .int qm), (0, .ref 38)]) dX7_furthest_32 (by decide) rfl ?_
      refine r_iload dX7_furthest_33 rfl ?_
      refine r_iload_n dX7_furthest_35 rfl ?_
      refine r_icmp_le (tgt := 44) dX7_furthest_36 (by decide) (fun b36 => ?_) (fun b36 => ?_)
      · refine r_iload_n dX7_furthest_44 rfl ?_
        refine r_istore_n (loc' := [(2, .int qm), (1, .int (nI i)), (4, .int v19), (3, .int (nI i)), (0, .ref 38)]) dX7_furthest_45 (by decide) rfl ?_
        refine r_iinc (v := (nI (i + 1))) (loc' := [(3, .int (nI (i + 1))), (2, .int qm), (1, .int (nI i)), (4, .int v19), (0, .ref 38)]) dX7_furthest_46 rfl ((nI_succ _).symm) (by decide) rfl ?_
        refine r_goto (tgt := 6) dX7_furthest_49 (by decide) ?_
        refine qG.pick [0, 1, 2, 4] rfl ?_
        have K := hs A1 (by omega) (hR.fm f1) (fun A2 f2 => h A2 (f1.tr f2))
        subst e19
        first | exact absurd b36 b24 | exact absurd b24 b36 | (rw [if_neg (i_nle b24)] at K; rw [eq1, eq2] at K; exact K) | (rw [if_pos (i_ngt b24)] at K; exact K)
      · refine r_iload dX7_furthest_39 rfl ?_
        refine r_goto (tgt := 45) dX7_furthest_41 (by decide) ?_
        refine r_istore_n (loc' := [(2, .int v19), (1, .int (nI i)), (4, .int v19), (3, .int (nI i)), (0, .ref 38)]) dX7_furthest_45 (by decide) rfl ?_
        refine r_iinc (v := (nI (i + 1))) (loc' := [(3, .int (nI (i + 1))), (2, .int v19), (1, .int (nI i)), (4, .int v19), (0, .ref 38)]) dX7_furthest_46 rfl ((nI_succ _).symm) (by decide) rfl ?_
        refine r_goto (tgt := 6) dX7_furthest_49 (by decide) ?_
        refine qG.pick [0, 1, 2, 4] rfl ?_
        have K := hs A1 (by omega) (hR.fm f1) (fun A2 f2 => h A2 (f1.tr f2))
        subst e19
        first | exact absurd b36 b24 | exact absurd b24 b36 | (rw [if_neg (i_nle b24)] at K; rw [eq1, eq2] at K; exact K) | (rw [if_pos (i_ngt b24)] at K; exact K)
set_option maxRecDepth 100000 in
set_option maxHeartbeats 1000000 in
theorem sp_fpair (hE : hC E) (hW : WfS S T n z) (hR : RC A S T n z) (h : ∀ A', Fr [5, 24, 26] A A' → Ph (some (.int (fbF (sP S) n).1)) A' L) : qC E mm_X6_furthestPair (d + 4) [.ref 0] A L Ph := by
  refine qC.enter (by decide) (Nat.le_of_ble_eq_true rfl) ?_
  refine r_iconst (v := (-1)) dX6_furthestPair_0 rfl ?_
  refine r_istore_n (loc' := [(1, .int (-1)), (0, .ref 0)]) dX6_furthestPair_1 (by decide) rfl ?_
  refine r_iconst (v := (-1)) dX6_furthestPair_2 rfl ?_
  refine r_istore_n (loc' := [(2, .int (-1)), (1, .int (-1)), (0, .ref 0)]) dX6_furthestPair_3 (by decide) rfl ?_
  refine r_iconst (v := 0) dX6_furthestPair_4 rfl ?_
  refine r_istore_n (loc' := [(3, .int 0), (2, .int (-1)), (1, .int (-1)), (0, .ref 0)]) dX6_furthestPair_5 (by decide) rfl ?_
  refine qG.pick [0, 1, 2, 3] rfl ?_
  exact cfp_loop hE hW n 0 A (by omega) hR h
set_option maxRecDepth 100000 in
set_option maxHeartbeats 1000000 in
theorem sp_mfur (hE : hM E) (hW : WfS S T n z) (hR : RM A S T) (h : ∀ A', FM A A' → Ph (some (.int (fbF (sP S) n).1)) A' L) : qC E mm_X7_furthest (d + 5) [.ref 38] A L Ph := by
  refine qC.enter (by decide) (Nat.le_of_ble_eq_true rfl) ?_
  refine r_iconst (v := (-1)) dX7_furthest_0 rfl ?_
  refine r_istore_n (loc' := [(1, .int (-1)), (0, .ref 38)]) dX7_furthest_1 (by decide) rfl ?_
  refine r_iconst (v := (-1)) dX7_furthest_2 rfl ?_
  refine r_istore_n (loc' := [(2, .int (-1)), (1, .int (-1)), (0, .ref 38)]) dX7_furthest_3 (by decide) rfl ?_
  refine r_iconst (v := 0) dX7_furthest_4 rfl ?_
  refine r_istore_n (loc' := [(3, .int 0), (2, .int (-1)), (1, .int (-1)), (0, .ref 38)]) dX7_furthest_5 (by decide) rfl ?_
  refine qG.pick [0, 1, 2, 3] rfl ?_
  exact mfp_loop hE hW n 0 A (by omega) hR h
theorem fb_cases (hW : WfS S T n z) : (n = 0 ∧ (fbF (sP S) n).1 = -1 ∧ sgF S n = 0) ∨ ∃ j, j < n ∧ (fbF (sP S) n).1 = nI j ∧ sgF S n = sP S j := by
  have key : ∀ m, m ≤ n → (m = 0 ∧ fbF (sP S) m = (-1, -1)) ∨ ∃ j, j < m ∧ fbF (sP S) m = (nI j, sP S j) := by
    intro m hm
    have e : fbF (sP S) m = fbF (fun i => if i < n then sP S i else 0) m := fbF_cong m (fun i hi => (if_pos (by omega)).symm)
    rw [e]
    rcases fbF_ok (fun i => if i < n then sP S i else 0) (fun i => by
      show ∃ j, j ≤ 40 ∧ (if i < n then sP S i else 0) = nI j
      split
      · next q => exact sP_ok hW q
      · exact ⟨0, by decide, rfl⟩) m with q | ⟨j, hj, q⟩
    · exact Or.inl q
    · refine Or.inr ⟨j, hj, q.trans ?_⟩
      rw [if_pos (show j < n by omega)]
  rcases key n (Nat.le_refl _) with ⟨e, q⟩ | ⟨j, hj, q⟩
  · exact Or.inl ⟨e, by rw [q], by unfold sgF; rw [if_pos e]⟩
  · exact Or.inr ⟨j, hj, by rw [q], by unfold sgF; rw [if_neg (by omega), q]⟩
theorem sg_ok (hW : WfS S T n z) : ∃ j, j ≤ 40 ∧ sgF S n = nI j := by
  rcases fb_cases hW with ⟨_, _, e⟩ | ⟨j, hj, _, e⟩
  · exact ⟨0, by decide, e⟩
  · rw [e]; exact sP_ok hW hj
set_option maxRecDepth 100000 in
set_option maxHeartbeats 1000000 in
theorem sp_cfur (hE : hC E) (hW : WfS S T n z) (hR : RC A S T n z) (h : ∀ A', Fr [5, 24, 26] A A' → Ph (some (.int (sgF S n))) A' L) : qC E mm_X6_furthest (d + 5) [.ref 0] A L Ph := by
  have hn := hW.2.2.2.2.1.1
  rcases fb_cases hW with ⟨e0, e1, e2⟩ | ⟨j, hj, e1, e2⟩
  · rw [e2] at h
    refine qC.enter (by decide) (Nat.le_of_ble_eq_true rfl) ?_
    refine r_aload_n dX6_furthest_0 rfl ?_
    refine r_callV0 dX6_furthest_1 lk_X6_182 (ly_0 hE) rfl (Nat.le_of_ble_eq_true rfl) (sp_fpair hE hW hR (fun A1 f1 => ?_))
    refine r_rw (y := -1) e1 ?_
    refine r_istore_n (loc' := [(1, .int (-1)), (0, .ref 0)]) dX6_furthest_4 (by decide) rfl ?_
    refine r_iload_n dX6_furthest_5 rfl ?_
    refine r_iconst (v := (-1)) dX6_furthest_6 rfl ?_
    refine r_icmp_ne (tgt := 14) dX6_furthest_7 (by decide) (fun hqz => absurd (by decide) hqz) (fun _ => ?_)
    refine r_iconst (v := 0) dX6_furthest_10 rfl ?_
    refine r_goto (tgt := 19) dX6_furthest_11 (by decide) ?_
    refine r_ireturn dX6_furthest_19 rfl rfl ?_
    exact h A1 f1
  · rw [e2] at h
    refine qC.enter (by decide) (Nat.le_of_ble_eq_true rfl) ?_
    refine r_aload_n dX6_furthest_0 rfl ?_
    refine r_callV0 dX6_furthest_1 lk_X6_182 (ly_0 hE) rfl (Nat.le_of_ble_eq_true rfl) (sp_fpair hE hW hR (fun A1 f1 => ?_))
    refine r_rw (y := nI j) e1 ?_
    refine r_istore_n (loc' := [(1, .int (nI j)), (0, .ref 0)]) dX6_furthest_4 (by decide) rfl ?_
    refine r_iload_n dX6_furthest_5 rfl ?_
    refine r_iconst (v := (-1)) dX6_furthest_6 rfl ?_
    refine r_icmp_ne (tgt := 14) dX6_furthest_7 (by decide) (fun _ => ?_) (fun hqz => absurd hqz (nI_nm1 (by omega)))
    refine r_aload_n dX6_furthest_14 rfl ?_
    refine r_iload_n dX6_furthest_15 rfl ?_
    refine r_callV1 dX6_furthest_16 lk_X6_198 (ly_0 hE) rfl (Nat.le_of_ble_eq_true rfl) (sp_farNow hE hW (hR.fr (f45 f1)) hj (fun A2 f2 => ?_))
    refine r_ireturn dX6_furthest_19 rfl rfl ?_
    exact h A2 (f1.tr f2)
set_option maxRecDepth 100000 in
set_option maxHeartbeats 1000000 in
theorem sp_sight (hE : hM E) (hW : WfS S T n z) (hR : RM A S T) (h : ∀ A', FM A A' → Ph (some (.int (sgF S n))) A' L) : qC E mm_X7_sight (d + 6) [.ref 38] A L Ph := by
  have hn := hW.2.2.2.2.1.1
  have h60 := hW.2.2.2.2.1.2.1
  rcases fb_cases hW with ⟨e0, e1, e2⟩ | ⟨j, hj, e1, e2⟩
  · rw [e2] at h
    refine qC.enter (by decide) (Nat.le_of_ble_eq_true rfl) ?_
    refine r_aload_n dX7_sight_0 rfl ?_
    refine r_callV0 dX7_sight_1 lk_X7_94 (ly_38 hE) rfl (Nat.le_of_ble_eq_true rfl) (sp_X7_many hE ?_)
    refine r_rw (y := 0) (by rw [hR.1, h60, e0]; rfl) ?_
    refine r_if_ne (tgt := 11) dX7_sight_4 (by decide) (fun hqz => absurd (by decide) hqz) (fun _ => ?_)
    refine r_iconst (v := 0) dX7_sight_7 rfl ?_
    refine r_goto (tgt := 19) dX7_sight_8 (by decide) ?_
    refine r_ireturn dX7_sight_19 rfl rfl ?_
    exact h A FM.rf
  · rw [e2] at h
    refine qC.enter (by decide) (Nat.le_of_ble_eq_true rfl) ?_
    refine r_aload_n dX7_sight_0 rfl ?_
    refine r_callV0 dX7_sight_1 lk_X7_94 (ly_38 hE) rfl (Nat.le_of_ble_eq_true rfl) (sp_X7_many hE ?_)
    refine r_rw (y := nI n) (by rw [hR.1]; exact h60) ?_
    refine r_if_ne (tgt := 11) dX7_sight_4 (by decide) (fun _ => ?_) (fun hqz => absurd hqz (fun z => by have := (nI_eq (a := n) (b := 0) (by omega) (by decide)).mp z; omega))
    refine r_aload_n dX7_sight_11 rfl ?_
    refine r_aload_n dX7_sight_12 rfl ?_
    refine r_callV0 dX7_sight_13 lk_X7_221 (ly_38 hE) rfl (Nat.le_of_ble_eq_true rfl) (sp_mfur hE hW hR (fun A1 f1 => ?_))
    refine r_rw (y := nI j) e1 ?_
    refine r_callV1 dX7_sight_16 lk_X7_218 (ly_38 hE) rfl (Nat.le_of_ble_eq_true rfl) (sp_sees hE hW (hR.fm f1) hj (fun A2 f2 => ?_))
    refine r_ireturn dX7_sight_19 rfl rfl ?_
    exact h A2 (f1.tr f2)
end VIEW
