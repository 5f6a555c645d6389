/-! the class reads a token -/
def CT (A : mA) (f : Nat → Int32) (z i : Nat) : Prop := A 4 2 = nI z ∧ (∀ j, j < z → A 25 j = f j) ∧ A 4 3 = nI (tE f z (i + 1)) ∧ A 4 4 = nI (tS f z i) ∧ A 4 5 = tk f z i ∧ (tk f z i = 300 → A 4 6 = am f z i)
/-- only such fields of the reader change -/
def F4 (X : List Nat) (A A' : mA) : Prop := Fr [4] A A' ∧ ∀ j, j ∉ X → A' 4 j = A 4 j
theorem F4.rf {X : List Nat} {A : mA} : F4 X A A := ⟨Fr.rf, fun _ _ => rfl⟩
theorem F4.tr {X : List Nat} {A B C : mA} (h1 : F4 X A B) (h2 : F4 X B C) : F4 X A C := ⟨h1.1.tr h2.1, fun j hj => (h2.2 j hj).trans (h1.2 j hj)⟩
theorem F4.mo {X Y : List Nat} {A B : mA} (h : F4 X A B) (hs : ∀ k, k ∈ X → k ∈ Y) : F4 Y A B := ⟨h.1, fun j hj => h.2 j (fun z => hj (hs j z))⟩
theorem F4.st {X : List Nat} {A : mA} {j : Nat} {v : Int32} (h : j ∈ X) : F4 X A (s2 A 4 j v) := ⟨Fr.s2 (by decide), fun q hq => s2_nj (fun _ e => hq (e ▸ h))⟩
theorem i2c_b : ∀ b, b < 256 → ((nI b).toUInt32 % 65536).toInt32 = nI b := by decide +kernel
section CLEX
variable {E : mE} {d : Nat} {A S : mA} {L : mJ} {Ph : mP} {f : Nat → Int32} {z : Nat}
set_option maxRecDepth 100000 in
set_option maxHeartbeats 1000000 in
theorem sp_isBlank {c : Int32} (h1 : isb c = true → Ph (some (.int 1)) A L) (h0 : ¬ isb c = true → Ph (some (.int 0)) A L) : qC E mm_X1_isBlank d [.int c] A L Ph := by
  refine qC.enter (by decide) (Nat.le_of_ble_eq_true rfl) ?_
  refine r_iload_n dX1_isBlank_0 rfl ?_
  refine r_bipush (v := 32) dX1_isBlank_1 rfl ?_
  refine r_icmp_eq (tgt := 12) dX1_isBlank_3 (by decide) (fun b3 => ?_) (fun b3 => ?_)
  · refine r_iconst (v := 1) dX1_isBlank_12 rfl ?_
    refine r_goto (tgt := 17) dX1_isBlank_13 (by decide) ?_
    refine r_ireturn dX1_isBlank_17 rfl (by decide) ?_
    first | exact h1 (decide_eq_true (Or.inl b3)) | exact h1 (decide_eq_true (Or.inr b9)) | exact h0 (fun q => (of_decide_eq_true q).elim b3 b9)
  · refine r_iload_n dX1_isBlank_6 rfl ?_
    refine r_bipush (v := 10) dX1_isBlank_7 rfl ?_
    refine r_icmp_ne (tgt := 16) dX1_isBlank_9 (by decide) (fun b9 => ?_) (fun b9 => ?_)
    · refine r_iconst (v := 0) dX1_isBlank_16 rfl ?_
      refine r_ireturn dX1_isBlank_17 rfl (by decide) ?_
      first | exact h1 (decide_eq_true (Or.inl b3)) | exact h1 (decide_eq_true (Or.inr b9)) | exact h0 (fun q => (of_decide_eq_true q).elim b3 b9)
    · refine r_iconst (v := 1) dX1_isBlank_12 rfl ?_
      refine r_goto (tgt := 17) dX1_isBlank_13 (by decide) ?_
      refine r_ireturn dX1_isBlank_17 rfl (by decide) ?_
      first | exact h1 (decide_eq_true (Or.inl b3)) | exact h1 (decide_eq_true (Or.inr b9)) | exact h0 (fun q => (of_decide_eq_true q).elim b3 b9)
set_option maxRecDepth 100000 in
set_option maxHeartbeats 1000000 in
theorem sp_isLetter {c : Int32} (h1 : isl c = true → Ph (some (.int 1)) A L) (h0 : ¬ isl c = true → Ph (some (.int 0)) A L) : qC E mm_X1_isLetter d [.int c] A L Ph := by
  refine qC.enter (by decide) (Nat.le_of_ble_eq_true rfl) ?_
  refine r_iload_n dX1_isLetter_0 rfl ?_
  refine r_bipush (v := 97) dX1_isLetter_1 rfl ?_
  refine r_icmp_lt (tgt := 16) dX1_isLetter_3 (by decide) (fun b3 => ?_) (fun b3 => ?_)
  · refine r_iconst (v := 0) dX1_isLetter_16 rfl ?_
    refine r_ireturn dX1_isLetter_17 rfl (by decide) ?_
    first | exact h0 (fun q => i_nle (of_decide_eq_true q).1 b3) | exact h0 (fun q => i_nle (of_decide_eq_true q).2 b9) | exact h1 (decide_eq_true ⟨i_nlt b3, i_nlt b9⟩)
  · refine r_iload_n dX1_isLetter_6 rfl ?_
    refine r_bipush (v := 122) dX1_isLetter_7 rfl ?_
    refine r_icmp_gt (tgt := 16) dX1_isLetter_9 (by decide) (fun b9 => ?_) (fun b9 => ?_)
    · refine r_iconst (v := 0) dX1_isLetter_16 rfl ?_
      refine r_ireturn dX1_isLetter_17 rfl (by decide) ?_
      first | exact h0 (fun q => i_nle (of_decide_eq_true q).1 b3) | exact h0 (fun q => i_nle (of_decide_eq_true q).2 b9) | exact h1 (decide_eq_true ⟨i_nlt b3, i_nlt b9⟩)
    · refine r_iconst (v := 1) dX1_isLetter_12 rfl ?_
      refine r_goto (tgt := 17) dX1_isLetter_13 (by decide) ?_
      refine r_ireturn dX1_isLetter_17 rfl (by decide) ?_
      first | exact h0 (fun q => i_nle (of_decide_eq_true q).1 b3) | exact h0 (fun q => i_nle (of_decide_eq_true q).2 b9) | exact h1 (decide_eq_true ⟨i_nlt b3, i_nlt b9⟩)
set_option maxRecDepth 100000 in
set_option maxHeartbeats 1000000 in
theorem sp_isDigit {c : Int32} (h1 : isd c = true → Ph (some (.int 1)) A L) (h0 : ¬ isd c = true → Ph (some (.int 0)) A L) : qC E mm_X1_isDigit d [.int c] A L Ph := by
  refine qC.enter (by decide) (Nat.le_of_ble_eq_true rfl) ?_
  refine r_iload_n dX1_isDigit_0 rfl ?_
  refine r_bipush (v := 48) dX1_isDigit_1 rfl ?_
  refine r_icmp_lt (tgt := 16) dX1_isDigit_3 (by decide) (fun b3 => ?_) (fun b3 => ?_)
  · refine r_iconst (v := 0) dX1_isDigit_16 rfl ?_
    refine r_ireturn dX1_isDigit_17 rfl (by decide) ?_
    first | exact h0 (fun q => i_nle (of_decide_eq_true q).1 b3) | exact h0 (fun q => i_nle (of_decide_eq_true q).2 b9) | exact h1 (decide_eq_true ⟨i_nlt b3, i_nlt b9⟩)
  · refine r_iload_n dX1_isDigit_6 rfl ?_
    refine r_bipush (v := 57) dX1_isDigit_7 rfl ?_
    refine r_icmp_gt (tgt := 16) dX1_isDigit_9 (by decide) (fun b9 => ?_) (fun b9 => ?_)
    · refine r_iconst (v := 0) dX1_isDigit_16 rfl ?_
      refine r_ireturn dX1_isDigit_17 rfl (by decide) ?_
      first | exact h0 (fun q => i_nle (of_decide_eq_true q).1 b3) | exact h0 (fun q => i_nle (of_decide_eq_true q).2 b9) | exact h1 (decide_eq_true ⟨i_nlt b3, i_nlt b9⟩)
    · refine r_iconst (v := 1) dX1_isDigit_12 rfl ?_
      refine r_goto (tgt := 17) dX1_isDigit_13 (by decide) ?_
      refine r_ireturn dX1_isDigit_17 rfl (by decide) ?_
      first | exact h0 (fun q => i_nle (of_decide_eq_true q).1 b3) | exact h0 (fun q => i_nle (of_decide_eq_true q).2 b9) | exact h1 (decide_eq_true ⟨i_nlt b3, i_nlt b9⟩)
set_option maxRecDepth 100000 in
set_option maxHeartbeats 1000000 in
theorem ab_loop (hE : hC E) (hz : z ≤ 160) : ∀ (k p : Nat) (A : mA), p + k = z → A 4 2 = nI z → (∀ j, j < z → A 25 j = f j) → A 4 3 = nI p → (∀ A', F4 [3] A A' → A' 4 3 = nI (rn isb f z k p) → qG E mm_X1_advance (d + 4) 49 [(0, .ref 4)] [] A' L Ph) → qG E mm_X1_advance (d + 4) 0 [(0, .ref 4)] [] A L Ph := by
  intro k
  induction k with
  | zero =>
    intro p A hp h2 h25 h3 h
    have hp : p = z := by omega
    subst hp
    refine r_aload_n dX1_advance_0 rfl ?_
    refine r_getI dX1_advance_1 fl_X1_27 (ly_4 hE) rfl ?_
    refine r_rw (y := nI p) h3 ?_
    refine r_aload_n dX1_advance_4 rfl ?_
    refine r_getI dX1_advance_5 fl_X1_19 (ly_4 hE) rfl ?_
    refine r_rw (y := nI p) h2 ?_
    refine r_icmp_ge (tgt := 49) dX1_advance_8 (by decide) (fun _ => ?_) (fun hqz => absurd (nI_le (Nat.le_refl _) (by omega)) hqz)
    refine qG.pick [0] rfl ?_
    exact h A F4.rf h3
  | succ k ih =>
    intro p A hp h2 h25 h3 h
    have hpz : p < z := by omega
    refine r_aload_n dX1_advance_0 rfl ?_
    refine r_getI dX1_advance_1 fl_X1_27 (ly_4 hE) rfl ?_
    refine r_rw (y := nI p) h3 ?_
    refine r_aload_n dX1_advance_4 rfl ?_
    refine r_getI dX1_advance_5 fl_X1_19 (ly_4 hE) rfl ?_
    refine r_rw (y := nI z) h2 ?_
    refine r_icmp_ge (tgt := 49) dX1_advance_8 (by decide) (fun hqz => absurd hqz (nI_ge hpz (by omega))) (fun _ => ?_)
    refine r_aload_n dX1_advance_11 rfl ?_
    refine r_getI dX1_advance_12 fl_X1_27 (ly_4 hE) rfl ?_
    refine r_rw (y := nI p) h3 ?_
    refine r_sipush (v := 160) dX1_advance_15 rfl ?_
    refine r_icmp_ge (tgt := 49) dX1_advance_18 (by decide) (fun hqz => absurd hqz (nI_ge (show p < 160 by omega) (by decide))) (fun _ => ?_)
    refine r_aload_n dX1_advance_21 rfl ?_
    refine r_getR dX1_advance_22 fl_X1_9 (ly_4 hE) rfl ?_
    refine r_aload_n dX1_advance_25 rfl ?_
    refine r_getI dX1_advance_26 fl_X1_27 (ly_4 hE) rfl ?_
    refine r_rw (y := nI p) h3 ?_
    refine r_ialdN dX1_advance_29 (ly_25 hE) (by omega) (by decide) ?_
    refine r_rw (y := f p) (h25 p hpz) ?_
    refine r_callS1 dX1_advance_30 lk_X1_84 (Nat.le_of_ble_eq_true rfl) (sp_isBlank (fun hb => ?_) (fun hb => ?_))
    · refine r_if_eq (tgt := 49) dX1_advance_33 (by decide) (fun hqz => absurd hqz (by decide)) (fun _ => ?_)
      refine r_aload_n dX1_advance_36 rfl ?_
      refine r_dup dX1_advance_37 rfl ?_
      refine r_getI dX1_advance_38 fl_X1_27 (ly_4 hE) rfl ?_
      refine r_rw (y := nI p) h3 ?_
      refine r_iconst (v := 1) dX1_advance_41 rfl ?_
      refine r_iadd dX1_advance_42 ?_
      refine r_rw (y := nI (p + 1)) (nI_1 p) ?_
      refine r_putI dX1_advance_43 fl_X1_27 fp_1_3 (ly_4 hE) rfl rfl rfl ?_
      refine r_goto (tgt := 0) dX1_advance_46 (by decide) ?_
      refine qG.pick [0] rfl ?_
      rw [rn_go ⟨hpz, hb⟩] at h
      exact ih (p + 1) _ (by omega) (by rw [s2_nj (fun _ => by decide)]; exact h2) (fun j hj => by rw [s2_ne (by decide)]; exact h25 j hj) s2_same (fun A' f1 e => h A' ((F4.st (by decide)).tr f1) e)
    · refine r_if_eq (tgt := 49) dX1_advance_33 (by decide) (fun _ => ?_) (fun hqz => absurd (by decide) hqz)
      refine qG.pick [0] rfl ?_
      rw [rn_no (fun q => hb q.2)] at h
      exact h A F4.rf h3
set_option maxRecDepth 100000 in
set_option maxHeartbeats 1000000 in
theorem al_loop (hE : hC E) (hz : z ≤ 160) : ∀ (k p : Nat) (A : mA), p + k = z → A 4 2 = nI z → (∀ j, j < z → A 25 j = f j) → A 4 3 = nI p → (∀ A', F4 [3] A A' → A' 4 3 = nI (rn isl f z k p) → qG E mm_X1_readSpelled (d + 4) 49 [(0, .ref 4)] [] A' L Ph) → qG E mm_X1_readSpelled (d + 4) 0 [(0, .ref 4)] [] A L Ph := by
  intro k
  induction k with
  | zero =>
    intro p A hp h2 h25 h3 h
    have hp : p = z := by omega
    subst hp
    refine r_aload_n dX1_readSpelled_0 rfl ?_
    refine r_getI dX1_readSpelled_1 fl_X1_27 (ly_4 hE) rfl ?_
    refine r_rw (y := nI p) h3 ?_
    refine r_aload_n dX1_readSpelled_4 rfl ?_
    refine r_getI dX1_readSpelled_5 fl_X1_19 (ly_4 hE) rfl ?_
    refine r_rw (y := nI p) h2 ?_
    refine r_icmp_ge (tgt := 49) dX1_readSpelled_8 (by decide) (fun _ => ?_) (fun hqz => absurd (nI_le (Nat.le_refl _) (by omega)) hqz)
    refine qG.pick [0] rfl ?_
    exact h A F4.rf h3
  | succ k ih =>
    intro p A hp h2 h25 h3 h
    have hpz : p < z := by omega
    refine r_aload_n dX1_readSpelled_0 rfl ?_
    refine r_getI dX1_readSpelled_1 fl_X1_27 (ly_4 hE) rfl ?_
    refine r_rw (y := nI p) h3 ?_
    refine r_aload_n dX1_readSpelled_4 rfl ?_
    refine r_getI dX1_readSpelled_5 fl_X1_19 (ly_4 hE) rfl ?_
    refine r_rw (y := nI z) h2 ?_
    refine r_icmp_ge (tgt := 49) dX1_readSpelled_8 (by decide) (fun hqz => absurd hqz (nI_ge hpz (by omega))) (fun _ => ?_)
    refine r_aload_n dX1_readSpelled_11 rfl ?_
    refine r_getI dX1_readSpelled_12 fl_X1_27 (ly_4 hE) rfl ?_
    refine r_rw (y := nI p) h3 ?_
    refine r_sipush (v := 160) dX1_readSpelled_15 rfl ?_
    refine r_icmp_ge (tgt := 49) dX1_readSpelled_18 (by decide) (fun hqz => absurd hqz (nI_ge (show p < 160 by omega) (by decide))) (fun _ => ?_)
    refine r_aload_n dX1_readSpelled_21 rfl ?_
    refine r_getR dX1_readSpelled_22 fl_X1_9 (ly_4 hE) rfl ?_
    refine r_aload_n dX1_readSpelled_25 rfl ?_
    refine r_getI dX1_readSpelled_26 fl_X1_27 (ly_4 hE) rfl ?_
    refine r_rw (y := nI p) h3 ?_
    refine r_ialdN dX1_readSpelled_29 (ly_25 hE) (by omega) (by decide) ?_
    refine r_rw (y := f p) (h25 p hpz) ?_
    refine r_callS1 dX1_readSpelled_30 lk_X1_87 (Nat.le_of_ble_eq_true rfl) (sp_isLetter (fun hb => ?_) (fun hb => ?_))
    · refine r_if_eq (tgt := 49) dX1_readSpelled_33 (by decide) (fun hqz => absurd hqz (by decide)) (fun _ => ?_)
      refine r_aload_n dX1_readSpelled_36 rfl ?_
      refine r_dup dX1_readSpelled_37 rfl ?_
      refine r_getI dX1_readSpelled_38 fl_X1_27 (ly_4 hE) rfl ?_
      refine r_rw (y := nI p) h3 ?_
      refine r_iconst (v := 1) dX1_readSpelled_41 rfl ?_
      refine r_iadd dX1_readSpelled_42 ?_
      refine r_rw (y := nI (p + 1)) (nI_1 p) ?_
      refine r_putI dX1_readSpelled_43 fl_X1_27 fp_1_3 (ly_4 hE) rfl rfl rfl ?_
      refine r_goto (tgt := 0) dX1_readSpelled_46 (by decide) ?_
      refine qG.pick [0] rfl ?_
      rw [rn_go ⟨hpz, hb⟩] at h
      exact ih (p + 1) _ (by omega) (by rw [s2_nj (fun _ => by decide)]; exact h2) (fun j hj => by rw [s2_ne (by decide)]; exact h25 j hj) s2_same (fun A' f1 e => h A' ((F4.st (by decide)).tr f1) e)
    · refine r_if_eq (tgt := 49) dX1_readSpelled_33 (by decide) (fun _ => ?_) (fun hqz => absurd (by decide) hqz)
      refine qG.pick [0] rfl ?_
      rw [rn_no (fun q => hb q.2)] at h
      exact h A F4.rf h3
set_option maxRecDepth 100000 in
set_option maxHeartbeats 1000000 in
theorem sw_in (hE : hC E) (hz : z ≤ 160) {s n i : Nat} (hi : i < 12) (hn : n ≤ 6) (hs : s + n ≤ z) (h25 : ∀ j, j < z → A 25 j = f j) (h4 : A 4 4 = nI s) (h1 : (∀ j, j < n → spl i j = f (s + j)) → qG E mm_X1_readSpelled (d + 4) 118 [(3, .int (nI n)), (2, .int (nI i)), (1, .int (nI n)), (0, .ref 4)] [] A L Ph) (h0 : ∀ q, q < n → ¬ spl i q = f (s + q) → qG E mm_X1_readSpelled (d + 4) 118 [(3, .int (nI q)), (2, .int (nI i)), (1, .int (nI n)), (0, .ref 4)] [] A L Ph) : ∀ (k q : Nat), q + k = n → (∀ j, j < q → spl i j = f (s + j)) → qG E mm_X1_readSpelled (d + 4) 82 [(3, .int (nI q)), (2, .int (nI i)), (1, .int (nI n)), (0, .ref 4)] [] A L Ph := by
  intro k
  induction k with
  | zero =>
    intro q hq hb
    have hq : q = n := by omega
    subst hq
    refine r_iload_n dX1_readSpelled_82 rfl ?_
    refine r_iload_n dX1_readSpelled_83 rfl ?_
    refine r_icmp_ge (tgt := 118) dX1_readSpelled_84 (by decide) (fun _ => ?_) (fun hqz => absurd (nI_le (Nat.le_refl _) (by omega)) hqz)
    refine qG.pick [0, 1, 2, 3] rfl ?_
    exact h1 hb
  | succ k ih =>
    intro q hq hb
    have hqn : q < n := by omega
    refine r_iload_n dX1_readSpelled_82 rfl ?_
    refine r_iload_n dX1_readSpelled_83 rfl ?_
    refine r_icmp_ge (tgt := 118) dX1_readSpelled_84 (by decide) (fun hqz => absurd hqz (nI_ge hqn (by omega))) (fun _ => ?_)
    refine r_ldcS1003 dX1_readSpelled_87 rfl ?_
    refine r_iload_n dX1_readSpelled_89 rfl ?_
    refine r_bipush (v := 7) dX1_readSpelled_90 rfl ?_
    refine r_imul dX1_readSpelled_92 ?_
    refine r_iload_n dX1_readSpelled_93 rfl ?_
    refine r_iadd dX1_readSpelled_94 ?_
    refine r_rw (y := nI (7 * i + q)) (show nI i * nI 7 + nI q = _ by rw [pk_mul, nI_add]; congr 1; omega) ?_
    refine r_callX1 (i := 1) dX1_readSpelled_95 lk_X1_108 rfl (by decide) (Nat.le_of_ble_eq_true rfl) (sp_charAt (i := 1) (j := 7 * i + q) (by decide) (show 7 * i + q < 84 by omega) ?_)
    refine r_rw (y := spl i q) rfl ?_
    refine r_aload_n dX1_readSpelled_98 rfl ?_
    refine r_getR dX1_readSpelled_99 fl_X1_9 (ly_4 hE) rfl ?_
    refine r_aload_n dX1_readSpelled_102 rfl ?_
    refine r_getI dX1_readSpelled_103 fl_X1_58 (ly_4 hE) rfl ?_
    refine r_rw (y := nI s) h4 ?_
    refine r_iload_n dX1_readSpelled_106 rfl ?_
    refine r_iadd dX1_readSpelled_107 ?_
    refine r_rw (y := nI (s + q)) (nI_add s q) ?_
    refine r_ialdN dX1_readSpelled_108 (ly_25 hE) (by omega) (by decide) ?_
    refine r_rw (y := f (s + q)) (h25 _ (by omega)) ?_
    refine r_icmp_ne (tgt := 118) dX1_readSpelled_109 (by decide) (fun b109 => ?_) (fun b109 => ?_)
    · refine qG.pick [0, 1, 2, 3] rfl ?_
      exact h0 q hqn b109
    · refine r_iinc (v := (nI (q + 1))) (loc' := [(3, .int (nI (q + 1))), (2, .int (nI i)), (1, .int (nI n)), (0, .ref 4)]) dX1_readSpelled_112 rfl ((nI_succ _).symm) (by decide) rfl ?_
      refine r_goto (tgt := 82) dX1_readSpelled_115 (by decide) ?_
      refine qG.pick [0, 1, 2, 3] rfl ?_
      refine ih (q + 1) (by omega) (fun j hj => ?_)
      rcases Nat.lt_or_ge j q with y | y
      · exact hb j y
      · rw [show j = q by omega]
        exact b109
set_option maxRecDepth 100000 in
set_option maxHeartbeats 1000000 in
theorem sw_out (hE : hC E) (hz : z ≤ 160) {s n : Nat} (hn0 : 0 < n) (hn : n ≤ 6) (hs : s + n ≤ z) (hl : ∀ j, s ≤ j → j < s + n → isl (f j) = true) : ∀ (k i : Nat) (A : mA), i + k = 12 → (∀ j, j < z → A 25 j = f j) → A 4 4 = nI s → A 4 5 = (if wdF f s (s + n) i = -1 then 302 else wdF f s (s + n) i) → (∀ A', F4 [5] A A' → A' 4 5 = (if wdF f s (s + n) 12 = -1 then 302 else wdF f s (s + n) 12) → Ph none A' L) → qG E mm_X1_readSpelled (d + 4) 68 [(2, .int (nI i)), (1, .int (nI n)), (0, .ref 4)] [] A L Ph := by
  intro k
  induction k with
  | zero =>
    intro i A hi h25 h4 h5 h
    have hi : i = 12 := by omega
    subst hi
    refine r_iload_n dX1_readSpelled_68 rfl ?_
    refine r_bipush (v := 12) dX1_readSpelled_69 rfl ?_
    refine r_icmp_ge (tgt := 150) dX1_readSpelled_71 (by decide) (fun _ => ?_) (fun hqz => absurd (nI_le (Nat.le_refl 12) (by decide)) hqz)
    refine r_return dX1_readSpelled_150 rfl ?_
    exact h A F4.rf h5
  | succ k ih =>
    intro i A hi h25 h4 h5 h
    have hi12 : i < 12 := by omega
    have hm := mt_iff (f := f) (s := s) (e := s + n) hi12 (by omega) hl (by omega)
    rw [show s + n - s = n by omega] at hm
    refine r_iload_n dX1_readSpelled_68 rfl ?_
    refine r_bipush (v := 12) dX1_readSpelled_69 rfl ?_
    refine r_icmp_ge (tgt := 150) dX1_readSpelled_71 (by decide) (fun hqz => absurd hqz (nI_ge hi12 (by decide))) (fun _ => ?_)
    refine r_iload_n dX1_readSpelled_74 rfl ?_
    refine r_bipush (v := 7) dX1_readSpelled_75 rfl ?_
    refine r_icmp_ge (tgt := 150) dX1_readSpelled_77 (by decide) (fun hqz => absurd hqz (nI_ge (show n < 7 by omega) (by decide))) (fun _ => ?_)
    refine r_iconst (v := 0) dX1_readSpelled_80 rfl ?_
    refine r_istore_n (loc' := [(3, .int 0), (2, .int (nI i)), (1, .int (nI n)), (0, .ref 4)]) dX1_readSpelled_81 (by decide) rfl ?_
    refine qG.pick [0, 1, 2, 3] rfl ?_
    refine sw_in hE hz hi12 hn hs h25 h4 (fun hb => ?_) (fun q hq hb => ?_) n 0 (by omega) (fun j hj => absurd hj (Nat.not_lt_zero _))
    · refine r_iload_n dX1_readSpelled_118 rfl ?_
      refine r_iload_n dX1_readSpelled_119 rfl ?_
      refine r_icmp_ne (tgt := 144) dX1_readSpelled_120 (by decide) (fun hqz => absurd rfl hqz) (fun _ => ?_)
      refine r_ldcS1003 dX1_readSpelled_123 rfl ?_
      refine r_iload_n dX1_readSpelled_125 rfl ?_
      refine r_bipush (v := 7) dX1_readSpelled_126 rfl ?_
      refine r_imul dX1_readSpelled_128 ?_
      refine r_iload_n dX1_readSpelled_129 rfl ?_
      refine r_iadd dX1_readSpelled_130 ?_
      refine r_rw (y := nI (7 * i + n)) (show nI i * nI 7 + nI n = _ by rw [pk_mul, nI_add]; congr 1; omega) ?_
      refine r_callX1 (i := 1) dX1_readSpelled_131 lk_X1_108 rfl (by decide) (Nat.le_of_ble_eq_true rfl) (sp_charAt (i := 1) (j := 7 * i + n) (by decide) (show 7 * i + n < 84 by omega) ?_)
      refine r_rw (y := spl i n) rfl ?_
      refine r_bipush (v := 32) dX1_readSpelled_134 rfl ?_
      refine r_icmp_ne (tgt := 144) dX1_readSpelled_136 (by decide) (fun b136 => ?_) (fun b136 => ?_)
      · have hx : ¬ mt f s (s + n) i := fun q => b136 (hm.mp q).2
        rw [← wdF_f hx] at h5
        have K := ih (i + 1) A (by omega) h25 h4 h5 h
        refine r_iinc (v := (nI (i + 1))) (loc' := [(2, .int (nI (i + 1))), (3, .int (nI n)), (1, .int (nI n)), (0, .ref 4)]) dX1_readSpelled_144 rfl ((nI_succ _).symm) (by decide) rfl ?_
        refine r_goto (tgt := 68) dX1_readSpelled_147 (by decide) ?_
        refine qG.pick [0, 2, 3] rfl ?_
        exact K
      · have K := ih (i + 1) (s2 A 4 5 (nI i)) (by omega) (fun j hj => by rw [s2_ne (by decide)]; exact h25 j hj) (by rw [s2_nj (fun _ => by decide)]; exact h4) (by rw [s2_same, wdF_t (hm.mpr ⟨hb, b136⟩), if_neg (nI_nm1 (by omega))]) (fun A' f1 e => h A' ((F4.st (by decide)).tr f1) e)
        refine r_aload_n dX1_readSpelled_139 rfl ?_
        refine r_iload_n dX1_readSpelled_140 rfl ?_
        refine r_putI dX1_readSpelled_141 fl_X1_52 fp_1_5 (ly_4 hE) rfl rfl rfl ?_
        refine r_iinc (v := (nI (i + 1))) (loc' := [(2, .int (nI (i + 1))), (3, .int (nI n)), (1, .int (nI n)), (0, .ref 4)]) dX1_readSpelled_144 rfl ((nI_succ _).symm) (by decide) rfl ?_
        refine r_goto (tgt := 68) dX1_readSpelled_147 (by decide) ?_
        refine qG.pick [0, 2, 3] rfl ?_
        exact K
    · refine r_iload_n dX1_readSpelled_118 rfl ?_
      refine r_iload_n dX1_readSpelled_119 rfl ?_
      refine r_icmp_ne (tgt := 144) dX1_readSpelled_120 (by decide) (fun _ => ?_) (fun hqz => absurd hqz (fun y => by have := (nI_eq (by omega) (by omega)).mp y; omega))
      refine r_iinc (v := (nI (i + 1))) (loc' := [(2, .int (nI (i + 1))), (3, .int (nI q)), (1, .int (nI n)), (0, .ref 4)]) dX1_readSpelled_144 rfl ((nI_succ _).symm) (by decide) rfl ?_
      refine r_goto (tgt := 68) dX1_readSpelled_147 (by decide) ?_
      refine qG.pick [0, 2, 3] rfl ?_
      have hx : ¬ mt f s (s + n) i := fun y => hb ((hm.mp y).1 q hq)
      rw [← wdF_f hx] at h5
      exact ih (i + 1) A (by omega) h25 h4 h5 h
theorem wdF_long {s e : Nat} (h : ¬ e - s ≤ 6) : ∀ n, wdF f s e n = -1
  | 0 => rfl
  | n + 1 => by rw [wdF_f (fun q => h q.1)]; exact wdF_long h n
set_option maxRecDepth 100000 in
set_option maxHeartbeats 1000000 in
theorem sp_readSpelled (hE : hC E) (hz : z ≤ 160) {s : Nat} (hs : so f z s = 1) (h2 : A 4 2 = nI z) (h25 : ∀ j, j < z → A 25 j = f j) (h3 : A 4 3 = nI s) (h4 : A 4 4 = nI s) (h : ∀ A', F4 [3, 5] A A' → A' 4 3 = nI (eo f z s) → A' 4 5 = tkA f z s → Ph none A' L) : qC E mm_X1_readSpelled (d + 4) [.ref 4] A L Ph := by
  have hsz : s < z := so_lt (f := f) (by omega)
  have hk := eo_ok (f := f) hz (Nat.le_of_lt hsz)
  have he : eo f z s = rn isl f z (z - s) s := by
    unfold eo
    rw [if_neg (by omega), if_pos hs, rn_160 hz (z - s) (by omega) (by omega)]
  have ht : tkA f z s = (if wdF f s (eo f z s) 12 = -1 then 302 else wdF f s (eo f z s) 12) := by
    unfold tkA
    rw [if_neg (by omega), if_pos hs]
  have hl := (rn_ok (P := isl) (f := f) (z := z) (z - s) s (by omega)).2.2.1
  rw [← he] at hl
  have hlt := hk.2.2 (by omega)
  obtain ⟨n, hn⟩ : ∃ n, eo f z s = s + n := ⟨eo f z s - s, by omega⟩
  rw [hn] at h ht hl
  refine qC.enter (by decide) (Nat.le_of_ble_eq_true rfl) ?_
  refine al_loop hE hz (z - s) s A (by omega) h2 h25 h3 (fun A1 f1 e1 => ?_)
  rw [← he, hn] at e1
  by_cases h6 : n ≤ 6

  · refine r_aload_n dX1_readSpelled_49 rfl ?_
    refine r_getI dX1_readSpelled_50 fl_X1_27 (ly_4 hE) rfl ?_
    refine r_rw (y := nI (s + n)) e1 ?_
    refine r_aload_n dX1_readSpelled_53 rfl ?_
    refine r_getI dX1_readSpelled_54 fl_X1_58 (ly_4 hE) rfl ?_
    refine r_rw (y := nI s) ((f1.2 4 (by decide)).trans h4) ?_
    refine r_isub dX1_readSpelled_57 ?_
    refine r_rw (y := nI n) ((pk_sub (by omega)).trans (by congr 1; omega)) ?_
    refine r_istore_n (loc' := [(1, .int (nI n)), (0, .ref 4)]) dX1_readSpelled_58 (by decide) rfl ?_
    refine r_aload_n dX1_readSpelled_59 rfl ?_
    refine r_sipush (v := 302) dX1_readSpelled_60 rfl ?_
    refine r_putI dX1_readSpelled_63 fl_X1_52 fp_1_5 (ly_4 hE) rfl rfl rfl ?_
    refine r_iconst (v := 0) dX1_readSpelled_66 rfl ?_
    refine r_istore_n (loc' := [(2, .int 0), (1, .int (nI n)), (0, .ref 4)]) dX1_readSpelled_67 (by decide) rfl ?_
    refine qG.pick [0, 1, 2] rfl ?_
    refine sw_out hE hz (by omega) h6 (by omega) hl 12 0 _ (by omega) (fun j hj => by rw [s2_ne (by decide), f1.1 25 (by decide)]; exact h25 j hj) (by rw [s2_nj (fun _ => by decide), f1.2 4 (by decide)]; exact h4) s2_same (fun A' f2 e2 => ?_)
    refine h A' (((f1.mo (by decide)).tr (F4.st (by decide))).tr (f2.mo (by decide))) ?_ (e2.trans ht.symm)
    rw [f2.2 3 (by decide), s2_nj (fun _ => by decide)]
    exact e1
  · refine r_aload_n dX1_readSpelled_49 rfl ?_
    refine r_getI dX1_readSpelled_50 fl_X1_27 (ly_4 hE) rfl ?_
    refine r_rw (y := nI (s + n)) e1 ?_
    refine r_aload_n dX1_readSpelled_53 rfl ?_
    refine r_getI dX1_readSpelled_54 fl_X1_58 (ly_4 hE) rfl ?_
    refine r_rw (y := nI s) ((f1.2 4 (by decide)).trans h4) ?_
    refine r_isub dX1_readSpelled_57 ?_
    refine r_rw (y := nI n) ((pk_sub (by omega)).trans (by congr 1; omega)) ?_
    refine r_istore_n (loc' := [(1, .int (nI n)), (0, .ref 4)]) dX1_readSpelled_58 (by decide) rfl ?_
    refine r_aload_n dX1_readSpelled_59 rfl ?_
    refine r_sipush (v := 302) dX1_readSpelled_60 rfl ?_
    refine r_putI dX1_readSpelled_63 fl_X1_52 fp_1_5 (ly_4 hE) rfl rfl rfl ?_
    refine r_iconst (v := 0) dX1_readSpelled_66 rfl ?_
    refine r_istore_n (loc' := [(2, .int 0), (1, .int (nI n)), (0, .ref 4)]) dX1_readSpelled_67 (by decide) rfl ?_
    refine r_iload_n dX1_readSpelled_68 rfl ?_
    refine r_bipush (v := 12) dX1_readSpelled_69 rfl ?_
    refine r_icmp_ge (tgt := 150) dX1_readSpelled_71 (by decide) (fun hqz => absurd hqz (by decide)) (fun _ => ?_)
    refine r_iload_n dX1_readSpelled_74 rfl ?_
    refine r_bipush (v := 7) dX1_readSpelled_75 rfl ?_
    refine r_icmp_ge (tgt := 150) dX1_readSpelled_77 (by decide) (fun _ => ?_) (fun hqz => absurd (nI_le (a := 7) (by omega) (by omega)) hqz)
    refine r_return dX1_readSpelled_150 rfl ?_
    refine h _ ((f1.mo (by decide)).tr (F4.st (by decide))) (by rw [s2_nj (fun _ => by decide)]; exact e1) ?_
    rw [s2_same, ht, if_pos (wdF_long (by omega) 12)]
set_option maxRecDepth 100000 in
set_option maxHeartbeats 1000000 in
theorem rn_loop (hE : hC E) (hz : z ≤ 160) {s : Nat} : ∀ (m k : Nat) (A : mA), s + k + m = z → A 4 2 = nI z → (∀ j, j < z → A 25 j = f j) → A 4 3 = nI (s + k) → A 4 4 = nI s → A 4 6 = amF f s (min (k) 4) → (∀ A' e, F4 [3, 6] A A' → e = rn isd f z m (s + k) → A' 4 3 = nI e → A' 4 6 = amF f s (min (e - s) 4) → qG E mm_X1_readNumber (d + 1) 98 [(0, .ref 4)] [] A' L Ph) → qG E mm_X1_readNumber (d + 1) 5 [(0, .ref 4)] [] A L Ph := by
  intro m
  induction m with
  | zero =>
    intro k A hk h2 h25 h3 h4 h6 h
    have hk : s + k = z := by omega
    refine r_aload_n dX1_readNumber_5 rfl ?_
    refine r_getI dX1_readNumber_6 fl_X1_27 (ly_4 hE) rfl ?_
    refine r_rw (y := nI (s + k)) h3 ?_
    refine r_aload_n dX1_readNumber_9 rfl ?_
    refine r_getI dX1_readNumber_10 fl_X1_19 (ly_4 hE) rfl ?_
    refine r_rw (y := nI (s + k)) (by rw [hk]; exact h2) ?_
    refine r_icmp_ge (tgt := 98) dX1_readNumber_13 (by decide) (fun _ => ?_) (fun hqz => absurd (nI_le (Nat.le_refl _) (by omega)) hqz)
    refine qG.pick [0] rfl ?_
    exact h A (s + k) F4.rf rfl h3 (by rw [h6, Nat.add_sub_cancel_left])
  | succ m ih =>
    intro k A hk h2 h25 h3 h4 h6 h
    have hpz : s + k < z := by omega
    by_cases hb : isd (f (s + k)) = true
    · rw [rn_go ⟨hpz, hb⟩] at h
      by_cases hk4 : k < 4
      · refine r_aload_n dX1_readNumber_5 rfl ?_
        refine r_getI dX1_readNumber_6 fl_X1_27 (ly_4 hE) rfl ?_
        refine r_rw (y := nI (s + k)) h3 ?_
        refine r_aload_n dX1_readNumber_9 rfl ?_
        refine r_getI dX1_readNumber_10 fl_X1_19 (ly_4 hE) rfl ?_
        refine r_rw (y := nI z) h2 ?_
        refine r_icmp_ge (tgt := 98) dX1_readNumber_13 (by decide) (fun hqz => absurd hqz (nI_ge hpz (by omega))) (fun _ => ?_)
        refine r_aload_n dX1_readNumber_16 rfl ?_
        refine r_getI dX1_readNumber_17 fl_X1_27 (ly_4 hE) rfl ?_
        refine r_rw (y := nI (s + k)) h3 ?_
        refine r_sipush (v := 160) dX1_readNumber_20 rfl ?_
        refine r_icmp_ge (tgt := 98) dX1_readNumber_23 (by decide) (fun hqz => absurd hqz (nI_ge (show s + k < 160 by omega) (by decide))) (fun _ => ?_)
        refine r_aload_n dX1_readNumber_26 rfl ?_
        refine r_getR dX1_readNumber_27 fl_X1_9 (ly_4 hE) rfl ?_
        refine r_aload_n dX1_readNumber_30 rfl ?_
        refine r_getI dX1_readNumber_31 fl_X1_27 (ly_4 hE) rfl ?_
        refine r_rw (y := nI (s + k)) h3 ?_
        refine r_ialdN dX1_readNumber_34 (ly_25 hE) (by omega) (by decide) ?_
        refine r_rw (y := f (s + k)) (h25 _ hpz) ?_
        refine r_callS1 dX1_readNumber_35 lk_X1_93 (Nat.le_of_ble_eq_true rfl) (sp_isDigit (fun _ => ?_) (fun q => absurd hb q))
        refine r_if_eq (tgt := 98) dX1_readNumber_38 (by decide) (fun hqz => absurd hqz (by decide)) (fun _ => ?_)
        refine r_aload_n dX1_readNumber_41 rfl ?_
        refine r_aload_n dX1_readNumber_42 rfl ?_
        refine r_getI dX1_readNumber_43 fl_X1_27 (ly_4 hE) rfl ?_
        refine r_rw (y := nI (s + k)) h3 ?_
        refine r_aload_n dX1_readNumber_46 rfl ?_
        refine r_getI dX1_readNumber_47 fl_X1_58 (ly_4 hE) rfl ?_
        refine r_rw (y := nI s) h4 ?_
        refine r_isub dX1_readNumber_50 ?_
        refine r_rw (y := nI k) ((pk_sub (by omega)).trans (by congr 1; omega)) ?_
        refine r_iconst (v := 4) dX1_readNumber_51 rfl ?_
        refine r_icmp_ge (tgt := 78) dX1_readNumber_52 (by decide) (fun hqz => absurd hqz (nI_ge (b := 4) hk4 (by decide))) (fun _ => ?_)
        refine r_aload_n dX1_readNumber_55 rfl ?_
        refine r_getI dX1_readNumber_56 fl_X1_81 (ly_4 hE) rfl ?_
        refine r_rw (y := amF f s k) (by rw [h6, Nat.min_eq_left (by omega)]) ?_
        refine r_bipush (v := 10) dX1_readNumber_59 rfl ?_
        refine r_imul dX1_readNumber_61 ?_
        refine r_aload_n dX1_readNumber_62 rfl ?_
        refine r_getR dX1_readNumber_63 fl_X1_9 (ly_4 hE) rfl ?_
        refine r_aload_n dX1_readNumber_66 rfl ?_
        refine r_getI dX1_readNumber_67 fl_X1_27 (ly_4 hE) rfl ?_
        refine r_rw (y := nI (s + k)) h3 ?_
        refine r_ialdN dX1_readNumber_70 (ly_25 hE) (by omega) (by decide) ?_
        refine r_rw (y := f (s + k)) (h25 _ hpz) ?_
        refine r_iadd dX1_readNumber_71 ?_
        refine r_bipush (v := 48) dX1_readNumber_72 rfl ?_
        refine r_isub dX1_readNumber_74 ?_
        refine r_rw (y := amF f s (k + 1)) rfl ?_
        refine r_goto (tgt := 82) dX1_readNumber_75 (by decide) ?_
        refine r_putI dX1_readNumber_82 fl_X1_81 fp_1_6 (ly_4 hE) rfl rfl rfl ?_
        refine r_aload_n dX1_readNumber_85 rfl ?_
        refine r_dup dX1_readNumber_86 rfl ?_
        refine r_getI dX1_readNumber_87 fl_X1_27 (ly_4 hE) rfl ?_
        refine r_rw (y := nI (s + k)) (by rw [s2_nj (fun _ => by decide)]; exact h3) ?_
        refine r_iconst (v := 1) dX1_readNumber_90 rfl ?_
        refine r_iadd dX1_readNumber_91 ?_
        refine r_rw (y := nI (s + (k + 1))) (nI_1 _) ?_
        refine r_putI dX1_readNumber_92 fl_X1_27 fp_1_3 (ly_4 hE) rfl rfl rfl ?_
        refine r_goto (tgt := 5) dX1_readNumber_95 (by decide) ?_
        refine qG.pick [0] rfl ?_
        exact ih (k + 1) _ (by omega) (by rw [s2_nj (fun _ => by decide), s2_nj (fun _ => by decide)]; exact h2) (fun j hj => by rw [s2_ne (by decide), s2_ne (by decide)]; exact h25 j hj) s2_same (by rw [s2_nj (fun _ => by decide), s2_nj (fun _ => by decide)]; exact h4) (by rw [s2_nj (fun _ => by decide), s2_same, Nat.min_eq_left (by omega)]) (fun A' e f1 q => h A' e (((F4.st (by decide)).tr (F4.st (by decide))).tr f1) q)
      · refine r_aload_n dX1_readNumber_5 rfl ?_
        refine r_getI dX1_readNumber_6 fl_X1_27 (ly_4 hE) rfl ?_
        refine r_rw (y := nI (s + k)) h3 ?_
        refine r_aload_n dX1_readNumber_9 rfl ?_
        refine r_getI dX1_readNumber_10 fl_X1_19 (ly_4 hE) rfl ?_
        refine r_rw (y := nI z) h2 ?_
        refine r_icmp_ge (tgt := 98) dX1_readNumber_13 (by decide) (fun hqz => absurd hqz (nI_ge hpz (by omega))) (fun _ => ?_)
        refine r_aload_n dX1_readNumber_16 rfl ?_
        refine r_getI dX1_readNumber_17 fl_X1_27 (ly_4 hE) rfl ?_
        refine r_rw (y := nI (s + k)) h3 ?_
        refine r_sipush (v := 160) dX1_readNumber_20 rfl ?_
        refine r_icmp_ge (tgt := 98) dX1_readNumber_23 (by decide) (fun hqz => absurd hqz (nI_ge (show s + k < 160 by omega) (by decide))) (fun _ => ?_)
        refine r_aload_n dX1_readNumber_26 rfl ?_
        refine r_getR dX1_readNumber_27 fl_X1_9 (ly_4 hE) rfl ?_
        refine r_aload_n dX1_readNumber_30 rfl ?_
        refine r_getI dX1_readNumber_31 fl_X1_27 (ly_4 hE) rfl ?_
        refine r_rw (y := nI (s + k)) h3 ?_
        refine r_ialdN dX1_readNumber_34 (ly_25 hE) (by omega) (by decide) ?_
        refine r_rw (y := f (s + k)) (h25 _ hpz) ?_
        refine r_callS1 dX1_readNumber_35 lk_X1_93 (Nat.le_of_ble_eq_true rfl) (sp_isDigit (fun _ => ?_) (fun q => absurd hb q))
        refine r_if_eq (tgt := 98) dX1_readNumber_38 (by decide) (fun hqz => absurd hqz (by decide)) (fun _ => ?_)
        refine r_aload_n dX1_readNumber_41 rfl ?_
        refine r_aload_n dX1_readNumber_42 rfl ?_
        refine r_getI dX1_readNumber_43 fl_X1_27 (ly_4 hE) rfl ?_
        refine r_rw (y := nI (s + k)) h3 ?_
        refine r_aload_n dX1_readNumber_46 rfl ?_
        refine r_getI dX1_readNumber_47 fl_X1_58 (ly_4 hE) rfl ?_
        refine r_rw (y := nI s) h4 ?_
        refine r_isub dX1_readNumber_50 ?_
        refine r_rw (y := nI k) ((pk_sub (by omega)).trans (by congr 1; omega)) ?_
        refine r_iconst (v := 4) dX1_readNumber_51 rfl ?_
        refine r_icmp_ge (tgt := 78) dX1_readNumber_52 (by decide) (fun _ => ?_) (fun hqz => absurd (nI_le (a := 4) (by omega) (by omega)) hqz)
        refine r_aload_n dX1_readNumber_78 rfl ?_
        refine r_getI dX1_readNumber_79 fl_X1_81 (ly_4 hE) rfl ?_
        refine r_rw (y := amF f s 4) (by rw [h6, Nat.min_eq_right (by omega)]) ?_
        refine r_putI dX1_readNumber_82 fl_X1_81 fp_1_6 (ly_4 hE) rfl rfl rfl ?_
        refine r_aload_n dX1_readNumber_85 rfl ?_
        refine r_dup dX1_readNumber_86 rfl ?_
        refine r_getI dX1_readNumber_87 fl_X1_27 (ly_4 hE) rfl ?_
        refine r_rw (y := nI (s + k)) (by rw [s2_nj (fun _ => by decide)]; exact h3) ?_
        refine r_iconst (v := 1) dX1_readNumber_90 rfl ?_
        refine r_iadd dX1_readNumber_91 ?_
        refine r_rw (y := nI (s + (k + 1))) (nI_1 _) ?_
        refine r_putI dX1_readNumber_92 fl_X1_27 fp_1_3 (ly_4 hE) rfl rfl rfl ?_
        refine r_goto (tgt := 5) dX1_readNumber_95 (by decide) ?_
        refine qG.pick [0] rfl ?_
        exact ih (k + 1) _ (by omega) (by rw [s2_nj (fun _ => by decide), s2_nj (fun _ => by decide)]; exact h2) (fun j hj => by rw [s2_ne (by decide), s2_ne (by decide)]; exact h25 j hj) s2_same (by rw [s2_nj (fun _ => by decide), s2_nj (fun _ => by decide)]; exact h4) (by rw [s2_nj (fun _ => by decide), s2_same, Nat.min_eq_right (by omega)]) (fun A' e f1 q => h A' e (((F4.st (by decide)).tr (F4.st (by decide))).tr f1) q)
    · rw [rn_no (fun q => hb q.2)] at h
      refine r_aload_n dX1_readNumber_5 rfl ?_
      refine r_getI dX1_readNumber_6 fl_X1_27 (ly_4 hE) rfl ?_
      refine r_rw (y := nI (s + k)) h3 ?_
      refine r_aload_n dX1_readNumber_9 rfl ?_
      refine r_getI dX1_readNumber_10 fl_X1_19 (ly_4 hE) rfl ?_
      refine r_rw (y := nI z) h2 ?_
      refine r_icmp_ge (tgt := 98) dX1_readNumber_13 (by decide) (fun hqz => absurd hqz (nI_ge hpz (by omega))) (fun _ => ?_)
      refine r_aload_n dX1_readNumber_16 rfl ?_
      refine r_getI dX1_readNumber_17 fl_X1_27 (ly_4 hE) rfl ?_
      refine r_rw (y := nI (s + k)) h3 ?_
      refine r_sipush (v := 160) dX1_readNumber_20 rfl ?_
      refine r_icmp_ge (tgt := 98) dX1_readNumber_23 (by decide) (fun hqz => absurd hqz (nI_ge (show s + k < 160 by omega) (by decide))) (fun _ => ?_)
      refine r_aload_n dX1_readNumber_26 rfl ?_
      refine r_getR dX1_readNumber_27 fl_X1_9 (ly_4 hE) rfl ?_
      refine r_aload_n dX1_readNumber_30 rfl ?_
      refine r_getI dX1_readNumber_31 fl_X1_27 (ly_4 hE) rfl ?_
      refine r_rw (y := nI (s + k)) h3 ?_
      refine r_ialdN dX1_readNumber_34 (ly_25 hE) (by omega) (by decide) ?_
      refine r_rw (y := f (s + k)) (h25 _ hpz) ?_
      refine r_callS1 dX1_readNumber_35 lk_X1_93 (Nat.le_of_ble_eq_true rfl) (sp_isDigit (fun q => absurd q hb) (fun _ => ?_))
      refine r_if_eq (tgt := 98) dX1_readNumber_38 (by decide) (fun _ => ?_) (fun hqz => absurd (by decide) hqz)
      refine qG.pick [0] rfl ?_
      exact h A (s + k) F4.rf rfl h3 (by rw [h6, Nat.add_sub_cancel_left])
set_option maxRecDepth 100000 in
set_option maxHeartbeats 1000000 in
theorem sp_readNumber (hE : hC E) (hz : z ≤ 160) {s : Nat} (hs : so f z s = 2) (h2 : A 4 2 = nI z) (h25 : ∀ j, j < z → A 25 j = f j) (h3 : A 4 3 = nI s) (h4 : A 4 4 = nI s) (h : ∀ A', F4 [3, 5, 6] A A' → A' 4 3 = nI (eo f z s) → A' 4 5 = tkA f z s → (tkA f z s = 300 → A' 4 6 = amF f s (eo f z s - s)) → Ph none A' L) : qC E mm_X1_readNumber (d + 1) [.ref 4] A L Ph := by
  have hsz : s < z := so_lt (f := f) (by omega)
  have hk := eo_ok (f := f) hz (Nat.le_of_lt hsz)
  have he : eo f z s = rn isd f z (z - s) s := by
    unfold eo
    rw [if_neg (by omega), if_neg (by omega), if_pos hs, rn_160 hz (z - s) (by omega) (by omega)]
  have ht : tkA f z s = (if eo f z s - s ≤ 4 then 300 else 302) := by
    unfold tkA
    rw [if_neg (by omega), if_neg (by omega), if_pos hs]
  generalize eo f z s = e at *
  refine qC.enter (by decide) (Nat.le_of_ble_eq_true rfl) ?_
  refine r_aload_n dX1_readNumber_0 rfl ?_
  refine r_iconst (v := 0) dX1_readNumber_1 rfl ?_
  refine r_putI dX1_readNumber_2 fl_X1_81 fp_1_6 (ly_4 hE) rfl rfl rfl ?_
  refine qG.pick [0] rfl ?_
  refine rn_loop (f := f) (s := s) hE hz (z - s) 0 _ (by omega) (by rw [s2_nj (fun _ => by decide)]; exact h2) (fun j hj => by rw [s2_ne (by decide)]; exact h25 j hj) (by rw [s2_nj (fun _ => by decide)]; exact h3) (by rw [s2_nj (fun _ => by decide)]; exact h4) s2_same (fun A1 e1 f1 q1 q3 q6 => ?_)
  rw [Nat.add_zero, ← he] at q1
  subst q1
  have f2 : F4 [3, 5, 6] A A1 := (F4.st (by decide)).tr (f1.mo (by decide))
  have g4 : A1 4 4 = nI s := (f2.2 4 (by decide)).trans h4
  by_cases h5 : e1 - s ≤ 4
  · rw [if_pos h5] at ht
    refine r_aload_n dX1_readNumber_98 rfl ?_
    refine r_aload_n dX1_readNumber_99 rfl ?_
    refine r_getI dX1_readNumber_100 fl_X1_27 (ly_4 hE) rfl ?_
    refine r_rw (y := nI e1) q3 ?_
    refine r_aload_n dX1_readNumber_103 rfl ?_
    refine r_getI dX1_readNumber_104 fl_X1_58 (ly_4 hE) rfl ?_
    refine r_rw (y := nI s) g4 ?_
    refine r_isub dX1_readNumber_107 ?_
    refine r_rw (y := nI (e1 - s)) (pk_sub (by omega)) ?_
    refine r_iconst (v := 4) dX1_readNumber_108 rfl ?_
    refine r_icmp_gt (tgt := 118) dX1_readNumber_109 (by decide) (fun hqz => absurd hqz (i_nle (nI_le (b := 4) h5 (by decide)))) (fun _ => ?_)
    refine r_sipush (v := 300) dX1_readNumber_112 rfl ?_
    refine r_goto (tgt := 121) dX1_readNumber_115 (by decide) ?_
    refine r_putI dX1_readNumber_121 fl_X1_52 fp_1_5 (ly_4 hE) rfl rfl rfl ?_
    refine r_return dX1_readNumber_124 rfl ?_
    refine h _ (f2.tr (F4.st (by decide))) (by rw [s2_nj (fun _ => by decide)]; exact q3) (by rw [s2_same, ht]) (fun _ => ?_)
    rw [s2_nj (fun _ => by decide), q6, Nat.min_eq_left h5]
  · rw [if_neg h5] at ht
    refine r_aload_n dX1_readNumber_98 rfl ?_
    refine r_aload_n dX1_readNumber_99 rfl ?_
    refine r_getI dX1_readNumber_100 fl_X1_27 (ly_4 hE) rfl ?_
    refine r_rw (y := nI e1) q3 ?_
    refine r_aload_n dX1_readNumber_103 rfl ?_
    refine r_getI dX1_readNumber_104 fl_X1_58 (ly_4 hE) rfl ?_
    refine r_rw (y := nI s) g4 ?_
    refine r_isub dX1_readNumber_107 ?_
    refine r_rw (y := nI (e1 - s)) (pk_sub (by omega)) ?_
    refine r_iconst (v := 4) dX1_readNumber_108 rfl ?_
    refine r_icmp_gt (tgt := 118) dX1_readNumber_109 (by decide) (fun _ => ?_) (fun hqz => absurd (nI_lt (a := 4) (by omega) (by omega)) hqz)
    refine r_sipush (v := 302) dX1_readNumber_118 rfl ?_
    refine r_putI dX1_readNumber_121 fl_X1_52 fp_1_5 (ly_4 hE) rfl rfl rfl ?_
    refine r_return dX1_readNumber_124 rfl ?_
    refine h _ (f2.tr (F4.st (by decide))) (by rw [s2_nj (fun _ => by decide)]; exact q3) (by rw [s2_same, ht]) (fun q => absurd (ht.symm.trans q) (by decide))
set_option maxRecDepth 100000 in
set_option maxHeartbeats 1000000 in
theorem sp_advance (hE : hC E) (hz : z ≤ 160) (hf : ∀ j, j < z → ∃ b, b < 256 ∧ f j = nI b) {i : Nat} (h2 : A 4 2 = nI z) (h25 : ∀ j, j < z → A 25 j = f j) (h3 : A 4 3 = nI (tE f z i)) (h : ∀ A', F4 [3, 4, 5, 6] A A' → CT A' f z i → Ph none A' L) : qC E mm_X1_advance (d + 5) [.ref 4] A L Ph := by
  have hp := tE_le (f := f) hz i
  refine qC.enter (by decide) (Nat.le_of_ble_eq_true rfl) ?_
  refine ab_loop (d := d + 1) hE hz (z - tE f z i) (tE f z i) A (by omega) h2 h25 h3 (fun A1 f1 e1 => ?_)
  rw [rn_160 hz (z - tE f z i) (by omega) (by omega)] at e1
  obtain ⟨s, hs⟩ : ∃ s, tS f z i = s := ⟨_, rfl⟩
  rw [show rn isb f z 160 (tE f z i) = s from hs] at e1
  have hsz : s ≤ z := by rw [← hs]; exact hp.2.2
  have g2 : A1 4 2 = nI z := (f1.2 2 (by decide)).trans h2
  have g25 : ∀ j, j < z → A1 25 j = f j := fun j hj => by rw [f1.1 25 (by decide)]; exact h25 j hj
  obtain ⟨A2, eA2⟩ : ∃ A2, s2 A1 4 4 (nI s) = A2 := ⟨_, rfl⟩
  have f2 : F4 [3, 4, 5, 6] A A2 := by rw [← eA2]; exact (f1.mo (by decide)).tr (F4.st (by decide))
  have k2 : A2 4 2 = nI z := (f2.2 2 (by decide)).trans h2
  have k25 : ∀ j, j < z → A2 25 j = f j := fun j hj => by rw [f2.1 25 (by decide)]; exact h25 j hj
  have k3 : A2 4 3 = nI s := by rw [← eA2, s2_nj (fun _ => by decide)]; exact e1
  have k4 : A2 4 4 = nI s := by rw [← eA2, s2_same]
  have fin : ∀ A', F4 [3, 5, 6] A2 A' → A' 4 3 = nI (eo f z s) → A' 4 5 = tkA f z s → (tkA f z s = 300 → A' 4 6 = amF f s (eo f z s - s)) → Ph none A' L := by
    intro A' fa a3 a5 a6
    refine h A' (f2.tr (fa.mo (by decide))) ⟨(fa.2 2 (by decide)).trans k2, fun j hj => by rw [fa.1 25 (by decide)]; exact k25 j hj, ?_, ?_, ?_, ?_⟩
    · rw [tE_s, hs]; exact a3
    · rw [hs]; exact (fa.2 4 (by decide)).trans k4
    · unfold tk; rw [hs]; exact a5
    · unfold tk am; rw [tE_s, hs]; exact a6

  rcases tk_cases (s := s) hf with ⟨c0, ct⟩ | ⟨c0, -⟩ | ⟨c0, -⟩ | ⟨c0, b, hb, eb, ct⟩
  · have hl : z ≤ s := so_0.mp c0
    refine r_aload_n dX1_advance_49 rfl ?_
    refine r_aload_n dX1_advance_50 rfl ?_
    refine r_getI dX1_advance_51 fl_X1_27 (ly_4 hE) rfl ?_
    refine r_rw (y := nI s) e1 ?_
    refine r_putI dX1_advance_54 fl_X1_58 fp_1_4 (ly_4 hE) rfl rfl rfl ?_
    rw [eA2]
    refine r_aload_n dX1_advance_57 rfl ?_
    refine r_getI dX1_advance_58 fl_X1_27 (ly_4 hE) rfl ?_
    refine r_rw (y := nI s) k3 ?_
    refine r_aload_n dX1_advance_61 rfl ?_
    refine r_getI dX1_advance_62 fl_X1_19 (ly_4 hE) rfl ?_
    refine r_rw (y := nI z) k2 ?_
    refine r_icmp_ge (tgt := 78) dX1_advance_65 (by decide) (fun _ => ?_) (fun hqz => absurd (nI_le hl (by omega)) hqz)
    refine r_aload_n dX1_advance_78 rfl ?_
    refine r_sipush (v := 301) dX1_advance_79 rfl ?_
    refine r_putI dX1_advance_82 fl_X1_52 fp_1_5 (ly_4 hE) rfl rfl rfl ?_
    refine r_goto (tgt := 179) dX1_advance_85 (by decide) ?_
    refine r_return dX1_advance_179 rfl ?_
    refine fin _ (F4.st (by decide)) ?_ (by rw [s2_same, ct]) (fun q => absurd (ct.symm.trans q) (by decide))
    rw [s2_nj (fun _ => by decide)]
    unfold eo
    rw [if_pos c0]
    exact k3
  · have hl : s < z := so_lt (f := f) (by omega)
    refine r_aload_n dX1_advance_49 rfl ?_
    refine r_aload_n dX1_advance_50 rfl ?_
    refine r_getI dX1_advance_51 fl_X1_27 (ly_4 hE) rfl ?_
    refine r_rw (y := nI s) e1 ?_
    refine r_putI dX1_advance_54 fl_X1_58 fp_1_4 (ly_4 hE) rfl rfl rfl ?_
    rw [eA2]
    refine r_aload_n dX1_advance_57 rfl ?_
    refine r_getI dX1_advance_58 fl_X1_27 (ly_4 hE) rfl ?_
    refine r_rw (y := nI s) k3 ?_
    refine r_aload_n dX1_advance_61 rfl ?_
    refine r_getI dX1_advance_62 fl_X1_19 (ly_4 hE) rfl ?_
    refine r_rw (y := nI z) k2 ?_
    refine r_icmp_ge (tgt := 78) dX1_advance_65 (by decide) (fun hqz => absurd hqz (nI_ge hl (by omega))) (fun _ => ?_)
    refine r_aload_n dX1_advance_68 rfl ?_
    refine r_getI dX1_advance_69 fl_X1_27 (ly_4 hE) rfl ?_
    refine r_rw (y := nI s) k3 ?_
    refine r_sipush (v := 160) dX1_advance_72 rfl ?_
    refine r_icmp_lt (tgt := 88) dX1_advance_75 (by decide) (fun _ => ?_) (fun hqz => absurd (nI_lt (show s < 160 by omega) (by decide)) hqz)
    refine r_aload_n dX1_advance_88 rfl ?_
    refine r_getR dX1_advance_89 fl_X1_9 (ly_4 hE) rfl ?_
    refine r_aload_n dX1_advance_92 rfl ?_
    refine r_getI dX1_advance_93 fl_X1_27 (ly_4 hE) rfl ?_
    refine r_rw (y := nI s) k3 ?_
    refine r_ialdN dX1_advance_96 (ly_25 hE) (by omega) (by decide) ?_
    refine r_rw (y := f s) (k25 s hl) ?_
    refine r_callS1 dX1_advance_97 lk_X1_87 (Nat.le_of_ble_eq_true rfl) (sp_isLetter (fun _ => ?_) (fun q => absurd ((so_1 hl).mp c0) q))
    refine r_if_eq (tgt := 110) dX1_advance_100 (by decide) (fun hqz => absurd hqz (by decide)) (fun _ => ?_)
    refine r_aload_n dX1_advance_103 rfl ?_
    refine r_callV0 dX1_advance_104 lk_X1_90 (ly_4 hE) rfl (Nat.le_of_ble_eq_true rfl) (sp_readSpelled hE hz c0 k2 k25 k3 k4 (fun A3 f3 a3 a5 => ?_))
    refine r_goto (tgt := 179) dX1_advance_107 (by decide) ?_
    refine r_return dX1_advance_179 rfl ?_
    refine fin A3 (f3.mo (by decide)) a3 a5 (fun q => ?_)
    exfalso
    rcases tk_cases (s := s) hf with ⟨y, _⟩ | ⟨_, ⟨y, _⟩ | ⟨k, hk, y, _⟩⟩ | ⟨y, _⟩ | ⟨y, _⟩
    · omega
    · exact absurd (y.symm.trans q) (by decide)
    · have := (nI_eq (a := k) (b := 300) (by omega) (by decide)).mp (y.symm.trans q)
      omega
    · omega
    · omega
  · have hl : s < z := so_lt (f := f) (by omega)
    refine r_aload_n dX1_advance_49 rfl ?_
    refine r_aload_n dX1_advance_50 rfl ?_
    refine r_getI dX1_advance_51 fl_X1_27 (ly_4 hE) rfl ?_
    refine r_rw (y := nI s) e1 ?_
    refine r_putI dX1_advance_54 fl_X1_58 fp_1_4 (ly_4 hE) rfl rfl rfl ?_
    rw [eA2]
    refine r_aload_n dX1_advance_57 rfl ?_
    refine r_getI dX1_advance_58 fl_X1_27 (ly_4 hE) rfl ?_
    refine r_rw (y := nI s) k3 ?_
    refine r_aload_n dX1_advance_61 rfl ?_
    refine r_getI dX1_advance_62 fl_X1_19 (ly_4 hE) rfl ?_
    refine r_rw (y := nI z) k2 ?_
    refine r_icmp_ge (tgt := 78) dX1_advance_65 (by decide) (fun hqz => absurd hqz (nI_ge hl (by omega))) (fun _ => ?_)
    refine r_aload_n dX1_advance_68 rfl ?_
    refine r_getI dX1_advance_69 fl_X1_27 (ly_4 hE) rfl ?_
    refine r_rw (y := nI s) k3 ?_
    refine r_sipush (v := 160) dX1_advance_72 rfl ?_
    refine r_icmp_lt (tgt := 88) dX1_advance_75 (by decide) (fun _ => ?_) (fun hqz => absurd (nI_lt (show s < 160 by omega) (by decide)) hqz)
    refine r_aload_n dX1_advance_88 rfl ?_
    refine r_getR dX1_advance_89 fl_X1_9 (ly_4 hE) rfl ?_
    refine r_aload_n dX1_advance_92 rfl ?_
    refine r_getI dX1_advance_93 fl_X1_27 (ly_4 hE) rfl ?_
    refine r_rw (y := nI s) k3 ?_
    refine r_ialdN dX1_advance_96 (ly_25 hE) (by omega) (by decide) ?_
    refine r_rw (y := f s) (k25 s hl) ?_
    refine r_callS1 dX1_advance_97 lk_X1_87 (Nat.le_of_ble_eq_true rfl) (sp_isLetter (fun q => absurd ((so_1 hl).mpr q) (by omega)) (fun _ => ?_))
    refine r_if_eq (tgt := 110) dX1_advance_100 (by decide) (fun _ => ?_) (fun hqz => absurd (by decide) hqz)
    refine r_aload_n dX1_advance_110 rfl ?_
    refine r_getR dX1_advance_111 fl_X1_9 (ly_4 hE) rfl ?_
    refine r_aload_n dX1_advance_114 rfl ?_
    refine r_getI dX1_advance_115 fl_X1_27 (ly_4 hE) rfl ?_
    refine r_rw (y := nI s) k3 ?_
    refine r_ialdN dX1_advance_118 (ly_25 hE) (by omega) (by decide) ?_
    refine r_rw (y := f s) (k25 s hl) ?_
    refine r_callS1 dX1_advance_119 lk_X1_93 (Nat.le_of_ble_eq_true rfl) (sp_isDigit (fun _ => ?_) (fun q => absurd ((so_2 hl).mp c0) q))
    refine r_if_eq (tgt := 132) dX1_advance_122 (by decide) (fun hqz => absurd hqz (by decide)) (fun _ => ?_)
    refine r_aload_n dX1_advance_125 rfl ?_
    refine r_callV0 dX1_advance_126 lk_X1_96 (ly_4 hE) rfl (Nat.le_of_ble_eq_true rfl) (sp_readNumber hE hz c0 k2 k25 k3 k4 (fun A3 f3 a3 a5 a6 => ?_))
    refine r_goto (tgt := 179) dX1_advance_129 (by decide) ?_
    refine r_return dX1_advance_179 rfl ?_
    exact fin A3 f3 a3 a5 a6
  · have hl : s < z := so_lt (f := f) (by omega)
    have he : eo f z s = s + 1 := by
      unfold eo
      rw [if_neg (by omega), if_neg (by omega), if_neg (by omega)]
    refine r_aload_n dX1_advance_49 rfl ?_
    refine r_aload_n dX1_advance_50 rfl ?_
    refine r_getI dX1_advance_51 fl_X1_27 (ly_4 hE) rfl ?_
    refine r_rw (y := nI s) e1 ?_
    refine r_putI dX1_advance_54 fl_X1_58 fp_1_4 (ly_4 hE) rfl rfl rfl ?_
    rw [eA2]
    refine r_aload_n dX1_advance_57 rfl ?_
    refine r_getI dX1_advance_58 fl_X1_27 (ly_4 hE) rfl ?_
    refine r_rw (y := nI s) k3 ?_
    refine r_aload_n dX1_advance_61 rfl ?_
    refine r_getI dX1_advance_62 fl_X1_19 (ly_4 hE) rfl ?_
    refine r_rw (y := nI z) k2 ?_
    refine r_icmp_ge (tgt := 78) dX1_advance_65 (by decide) (fun hqz => absurd hqz (nI_ge hl (by omega))) (fun _ => ?_)
    refine r_aload_n dX1_advance_68 rfl ?_
    refine r_getI dX1_advance_69 fl_X1_27 (ly_4 hE) rfl ?_
    refine r_rw (y := nI s) k3 ?_
    refine r_sipush (v := 160) dX1_advance_72 rfl ?_
    refine r_icmp_lt (tgt := 88) dX1_advance_75 (by decide) (fun _ => ?_) (fun hqz => absurd (nI_lt (show s < 160 by omega) (by decide)) hqz)
    refine r_aload_n dX1_advance_88 rfl ?_
    refine r_getR dX1_advance_89 fl_X1_9 (ly_4 hE) rfl ?_
    refine r_aload_n dX1_advance_92 rfl ?_
    refine r_getI dX1_advance_93 fl_X1_27 (ly_4 hE) rfl ?_
    refine r_rw (y := nI s) k3 ?_
    refine r_ialdN dX1_advance_96 (ly_25 hE) (by omega) (by decide) ?_
    refine r_rw (y := f s) (k25 s hl) ?_
    refine r_callS1 dX1_advance_97 lk_X1_87 (Nat.le_of_ble_eq_true rfl) (sp_isLetter (fun q => absurd ((so_1 hl).mpr q) (by omega)) (fun _ => ?_))
    refine r_if_eq (tgt := 110) dX1_advance_100 (by decide) (fun _ => ?_) (fun hqz => absurd (by decide) hqz)
    refine r_aload_n dX1_advance_110 rfl ?_
    refine r_getR dX1_advance_111 fl_X1_9 (ly_4 hE) rfl ?_
    refine r_aload_n dX1_advance_114 rfl ?_
    refine r_getI dX1_advance_115 fl_X1_27 (ly_4 hE) rfl ?_
    refine r_rw (y := nI s) k3 ?_
    refine r_ialdN dX1_advance_118 (ly_25 hE) (by omega) (by decide) ?_
    refine r_rw (y := f s) (k25 s hl) ?_
    refine r_callS1 dX1_advance_119 lk_X1_93 (Nat.le_of_ble_eq_true rfl) (sp_isDigit (fun q => absurd ((so_2 hl).mpr q) (by omega)) (fun _ => ?_))
    refine r_if_eq (tgt := 132) dX1_advance_122 (by decide) (fun _ => ?_) (fun hqz => absurd (by decide) hqz)
    refine r_aload_n dX1_advance_132 rfl ?_
    refine r_ldcS1004 dX1_advance_133 rfl ?_
    refine r_aload_n dX1_advance_135 rfl ?_
    refine r_getR dX1_advance_136 fl_X1_9 (ly_4 hE) rfl ?_
    refine r_aload_n dX1_advance_139 rfl ?_
    refine r_getI dX1_advance_140 fl_X1_27 (ly_4 hE) rfl ?_
    refine r_rw (y := nI s) k3 ?_
    refine r_ialdN dX1_advance_143 (ly_25 hE) (by omega) (by decide) ?_
    refine r_rw (y := nI b) ((k25 s hl).trans eb) ?_
    refine r_i2c dX1_advance_144 ?_
    refine r_rw (y := nI b) (i2c_b b hb) ?_
    refine r_callX1 (i := 2) dX1_advance_145 lk_X1_101 rfl (by decide) (Nat.le_of_ble_eq_true rfl) (sp_indexOf hb (fun q k hk => ?_) (fun q => ?_))
    · have ht : tkA f z s = nI b := ct.elim (fun y => y.2) (fun y => absurd q y.1)
      refine r_if_lt (tgt := 163) dX1_advance_148 (by decide) (fun b148 => ?_) (fun b148 => ?_)
      · exact absurd b148 (i_nle (nI_le (a := 0) (Nat.zero_le _) (by omega)))
      · refine r_aload_n dX1_advance_151 rfl ?_
        refine r_getR dX1_advance_152 fl_X1_9 (ly_4 hE) rfl ?_
        refine r_aload_n dX1_advance_155 rfl ?_
        refine r_getI dX1_advance_156 fl_X1_27 (ly_4 hE) rfl ?_
        refine r_rw (y := nI s) k3 ?_
        refine r_ialdN dX1_advance_159 (ly_25 hE) (by omega) (by decide) ?_
        refine r_rw (y := nI b) ((k25 s hl).trans eb) ?_
        refine r_goto (tgt := 166) dX1_advance_160 (by decide) ?_
        refine r_putI dX1_advance_166 fl_X1_52 fp_1_5 (ly_4 hE) rfl rfl rfl ?_
        refine r_aload_n dX1_advance_169 rfl ?_
        refine r_dup dX1_advance_170 rfl ?_
        refine r_getI dX1_advance_171 fl_X1_27 (ly_4 hE) rfl ?_
        refine r_rw (y := nI s) (by rw [s2_nj (fun _ => by decide)]; exact k3) ?_
        refine r_iconst (v := 1) dX1_advance_174 rfl ?_
        refine r_iadd dX1_advance_175 ?_
        refine r_rw (y := nI (s + 1)) (nI_1 s) ?_
        refine r_putI dX1_advance_176 fl_X1_27 fp_1_3 (ly_4 hE) rfl rfl rfl ?_
        refine r_return dX1_advance_179 rfl ?_
        refine fin _ ((F4.st (by decide)).tr (F4.st (by decide))) (by rw [s2_same, he]) (by rw [s2_nj (fun _ => by decide), s2_same, ht]) (fun q => ?_)
        exfalso
        rw [ht] at q
        first | exact absurd q (by decide) | (have := (nI_eq (a := b) (b := 300) (by omega) (by decide)).mp q; omega)
    · have ht : tkA f z s = 302 := ct.elim (fun y => absurd y.1 q) (fun y => y.2)
      refine r_if_lt (tgt := 163) dX1_advance_148 (by decide) (fun _ => ?_) (fun hqz => absurd (by decide) hqz)
      refine r_sipush (v := 302) dX1_advance_163 rfl ?_
      refine r_putI dX1_advance_166 fl_X1_52 fp_1_5 (ly_4 hE) rfl rfl rfl ?_
      refine r_aload_n dX1_advance_169 rfl ?_
      refine r_dup dX1_advance_170 rfl ?_
      refine r_getI dX1_advance_171 fl_X1_27 (ly_4 hE) rfl ?_
      refine r_rw (y := nI s) (by rw [s2_nj (fun _ => by decide)]; exact k3) ?_
      refine r_iconst (v := 1) dX1_advance_174 rfl ?_
      refine r_iadd dX1_advance_175 ?_
      refine r_rw (y := nI (s + 1)) (nI_1 s) ?_
      refine r_putI dX1_advance_176 fl_X1_27 fp_1_3 (ly_4 hE) rfl rfl rfl ?_
      refine r_return dX1_advance_179 rfl ?_
      refine fin _ ((F4.st (by decide)).tr (F4.st (by decide))) (by rw [s2_same, he]) (by rw [s2_nj (fun _ => by decide), s2_same, ht]) (fun q => ?_)
      exfalso
      rw [ht] at q
      first | exact absurd q (by decide) | (have := (nI_eq (a := b) (b := 300) (by omega) (by decide)).mp q; omega)
end CLEX
