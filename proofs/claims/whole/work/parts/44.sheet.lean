/-! sheets -/
theorem ly_7r {s : Nat} (h : s < 4) : ([some 8, some 9, some 10, some 11] : List (Option Nat)).getD s none = some (8 + s) := by
  rcases (show s = 0 ∨ s = 1 ∨ s = 2 ∨ s = 3 by omega) with rfl | rfl | rfl | rfl <;> rfl
theorem ly_sh {E : mE} {s : Nat} (hE : hC E) (h : s < 4) : (mly E)[8 + s]? = some (.inr (3, [.ref (34 + s), .int 0, .int 0])) := by
  rcases (show s = 0 ∨ s = 1 ∨ s = 2 ∨ s = 3 by omega) with rfl | rfl | rfl | rfl
  · exact ly_8 hE
  · exact ly_9 hE
  · exact ly_10 hE
  · exact ly_11 hE
theorem ly_ce {E : mE} {s : Nat} (hE : hC E) (h : s < 4) : (mly E)[34 + s]? = some (.inl (0, 40, [])) := by
  rcases (show s = 0 ∨ s = 1 ∨ s = 2 ∨ s = 3 by omega) with rfl | rfl | rfl | rfl
  · exact ly_34 hE
  · exact ly_35 hE
  · exact ly_36 hE
  · exact ly_37 hE
def cutF (t v : Int32) : Int32 := if t = 0 then v.toInt8.toInt32 else if t = 1 then v.toInt16.toInt32 else v
abbrev xS : List Nat := [8, 9, 10, 11, 34, 35, 36, 37]
theorem xS_8 {s : Nat} (h : s < 4) : 8 + s ∈ xS := by simp; omega
theorem xS_34 {s : Nat} (h : s < 4) : 34 + s ∈ xS := by simp; omega
theorem WfS.sh {S S' : mA} {T n z : Nat} (h : WfS S T n z) (hS : Fr [53, 54, 55] S S') (hN : ∀ s, s < 4 → (S' 53 s = -1 ∨ ∃ t, t < 3 ∧ S' 53 s = nI t) ∧ ∃ y, y ≤ 40 ∧ S' 54 s = nI y) : WfS S' T n z := by
  obtain ⟨h1, h2, h3, h4, h5, h6, h7, h8⟩ := h
  refine ⟨h1, h2, by rw [hS 38 (by decide)]; exact h3, fun r hr => ?_, by rw [hS 39 (by decide)]; exact h5, by rw [hS 38 (by decide), hS 40 (by decide)]; exact h6, by rw [hS 38 (by decide), hS 41 (by decide)]; exact h7, hN⟩
  obtain ⟨e, he⟩ := h4 r hr
  exact ⟨e, he.now (hS 42 (by decide)) (hS 43 (by decide))⟩
theorem RC.sh {A A' S S' : mA} {T n z : Nat} (h : RC A S T n z) (hS : Fr [53, 54, 55] S S') (hA : Fr xS A A') (hN : ∀ s, s < 4 → A' (8 + s) 1 = S' 53 s ∧ A' (8 + s) 2 = S' 54 s ∧ ∀ i, i < 40 → A' (34 + s) i = S' 55 (40 * s + i)) : RC A' S' T n z := by
  obtain ⟨h1, h2, h3, h4, h5, h6⟩ := h
  refine ⟨?_, by rw [hA 0 (by decide), hS 38 (by decide)]; exact h2, ?_, ?_, ?_, hN⟩
  · rw [hS 39 (by decide)]
    exact h1.fr (hA _ (by decide)) (hA _ (by decide)) (hA _ (by decide)) (hA _ (by decide)) (hA _ (by decide)) (hA _ (by decide))
  · rw [hS 38 (by decide), hS 40 (by decide)]
    exact fun a n' b c => (h3 a n' b c).fr (hA _ (by decide)) (hA _ (by decide)) (hA _ (by decide)) (hA _ (by decide)) (hA _ (by decide)) (hA _ (by decide))
  · unfold RCt pe at *
    rw [hA 3 (by decide), hA 22 (by decide), hA 23 (by decide), hS 38 (by decide), hS 42 (by decide), hS 43 (by decide)]
    exact h4
  · rw [hA 4 (by decide), hA 25 (by decide), hS 38 (by decide), hS 41 (by decide)]
    exact h5
theorem RM.sh {A A' S S' : mA} {T : Nat} (h : RM A S T) (hS : Fr [53, 54, 55] S S') (hA : Fr [53, 54, 55, 56] A A') (h53 : A' 53 = S' 53) (h54 : A' 54 = S' 54) (h55 : A' 55 = S' 55) : RM A' S' T := by
  obtain ⟨h1, h2, h3, h4, h5, h6, h7, h8, h9, h10, h11, h12, h13⟩ := h
  unfold RM pe
  rw [h53, h54, h55, hA 39 (by decide), hA 40 (by decide), hA 38 (by decide), hA 41 (by decide), hA 42 (by decide), hA 43 (by decide), hA 44 (by decide), hA 57 (by decide), hS 40 (by decide), hS 38 (by decide), hS 41 (by decide), hS 42 (by decide), hS 43 (by decide), hS 39 (by decide)]
  exact ⟨h1, h2, h3, h4, h5, h6, h7, h8, rfl, rfl, rfl, h12, h13⟩
section SHEETS
variable {E : mE} {d : Nat} {A S : mA} {L : mJ} {Ph : mP} {T n z p r s : Nat}
set_option maxRecDepth 100000 in
set_option maxHeartbeats 4000000 in
theorem mis_t (hE : hC E) (hs : s < 4) (h1 : A (8 + s) 1 = -1) (h : Ph (some (.int 1)) A L) : qC E mm_X3_missing d [.ref (8 + s)] A L Ph := by
  refine qC.enter (by decide) (Nat.le_of_ble_eq_true rfl) ?_
  refine r_aload_n dX3_missing_0 rfl ?_
  refine r_getI dX3_missing_1 fl_X3_15 (ly_sh hE hs) rfl ?_
  refine r_rw (y := -1) h1 ?_
  refine r_iconst (v := (-1)) dX3_missing_4 rfl ?_
  refine r_icmp_ne (tgt := 12) dX3_missing_5 (by decide) (fun hqz => absurd (by decide) hqz) (fun _ => ?_)
  refine r_iconst (v := 1) dX3_missing_8 rfl ?_
  refine r_goto (tgt := 13) dX3_missing_9 (by decide) ?_
  refine r_ireturn dX3_missing_13 rfl (by decide) ?_
  exact h
set_option maxRecDepth 100000 in
set_option maxHeartbeats 4000000 in
theorem mis_f (hE : hC E) (hs : s < 4) (h1 : ¬ A (8 + s) 1 = -1) (h : Ph (some (.int 0)) A L) : qC E mm_X3_missing d [.ref (8 + s)] A L Ph := by
  refine qC.enter (by decide) (Nat.le_of_ble_eq_true rfl) ?_
  refine r_aload_n dX3_missing_0 rfl ?_
  refine r_getI dX3_missing_1 fl_X3_15 (ly_sh hE hs) rfl ?_
  refine r_iconst (v := (-1)) dX3_missing_4 rfl ?_
  refine r_icmp_ne (tgt := 12) dX3_missing_5 (by decide) (fun _ => ?_) (fun hqz => absurd hqz h1)
  refine r_iconst (v := 0) dX3_missing_12 rfl ?_
  refine r_ireturn dX3_missing_13 rfl (by decide) ?_
  exact h
set_option maxRecDepth 100000 in
set_option maxHeartbeats 4000000 in
theorem sp_X3_cut (hE : hC E) (hs : s < 4) {v : Int32} (h : Ph (some (.int (cutF (A (8 + s) 1) v))) A L) : qC E mm_X3_cut d [.ref (8 + s), .int v] A L Ph := by
  refine qC.enter (by decide) (Nat.le_of_ble_eq_true rfl) ?_
  refine r_aload_n dX3_cut_0 rfl ?_
  refine r_getI dX3_cut_1 fl_X3_15 (ly_sh hE hs) rfl ?_
  refine r_if_ne (tgt := 10) dX3_cut_4 (by decide) (fun b4 => ?_) (fun b4 => ?_)
  · refine r_aload_n dX3_cut_10 rfl ?_
    refine r_getI dX3_cut_11 fl_X3_15 (ly_sh hE hs) rfl ?_
    refine r_iconst (v := 1) dX3_cut_14 rfl ?_
    refine r_icmp_ne (tgt := 23) dX3_cut_15 (by decide) (fun b15 => ?_) (fun b15 => ?_)
    · refine r_iload_n dX3_cut_23 rfl ?_
      refine r_ireturn dX3_cut_24 rfl rfl ?_
      unfold cutF at h
      first | rwa [if_pos b4] at h | rwa [if_neg b4, if_pos b15] at h | rwa [if_neg b4, if_neg b15] at h
    · refine r_iload_n dX3_cut_18 rfl ?_
      refine r_i2s dX3_cut_19 ?_
      refine r_goto (tgt := 24) dX3_cut_20 (by decide) ?_
      refine r_ireturn dX3_cut_24 rfl rfl ?_
      unfold cutF at h
      first | rwa [if_pos b4] at h | rwa [if_neg b4, if_pos b15] at h | rwa [if_neg b4, if_neg b15] at h
  · refine r_iload_n dX3_cut_7 rfl ?_
    refine r_i2b dX3_cut_8 ?_
    refine r_ireturn dX3_cut_9 rfl rfl ?_
    unfold cutF at h
    first | rwa [if_pos b4] at h | rwa [if_neg b4, if_pos b15] at h | rwa [if_neg b4, if_neg b15] at h
set_option maxRecDepth 100000 in
set_option maxHeartbeats 4000000 in
theorem put_ok (hE : hC E) (hs : s < 4) {v : Int32} {i y : Nat} (hy : y ≤ 40) (h2 : A (8 + s) 2 = nI y) (hi : i < y) (h : Ph (some (.int 1)) (s2 A (34 + s) i (cutF (A (8 + s) 1) v)) L) : qC E mm_X3_put (d + 1) [.ref (8 + s), .int (nI i), .int v] A L Ph := by
  refine qC.enter (by decide) (Nat.le_of_ble_eq_true rfl) ?_
  refine r_iload_n dX3_put_0 rfl ?_
  refine r_aload_n dX3_put_1 rfl ?_
  refine r_getI dX3_put_2 fl_X3_23 (ly_sh hE hs) rfl ?_
  refine r_rw (y := nI y) h2 ?_
  refine r_callN2 dX3_put_5 lk_X3_32 (Nat.le_of_ble_eq_true rfl) (win_t rfl (by omega) hi ?_)
  refine r_if_eq (tgt := 17) dX3_put_8 (by decide) (fun hqz => absurd hqz (by decide)) (fun _ => ?_)
  refine r_iload_n dX3_put_11 rfl ?_
  refine r_bipush (v := 40) dX3_put_12 rfl ?_
  refine r_icmp_lt (tgt := 19) dX3_put_14 (by decide) (fun _ => ?_) (fun hqz => absurd (nI_lt (show i < 40 by omega) (by decide)) hqz)
  refine r_aload_n dX3_put_19 rfl ?_
  refine r_getR dX3_put_20 fl_X3_9 (ly_sh hE hs) rfl ?_
  refine r_iload_n dX3_put_23 rfl ?_
  refine r_aload_n dX3_put_24 rfl ?_
  refine r_iload_n dX3_put_25 rfl ?_
  refine r_callV1 dX3_put_26 lk_X3_36 (ly_sh hE hs) rfl (Nat.le_of_ble_eq_true rfl) (sp_X3_cut hE hs ?_)
  refine r_iastN dX3_put_29 (ly_ce hE hs) (by omega) (by decide) ?_
  refine r_iconst (v := 1) dX3_put_30 rfl ?_
  refine r_ireturn dX3_put_31 rfl (by decide) ?_
  exact h
set_option maxRecDepth 100000 in
set_option maxHeartbeats 4000000 in
theorem put_no (hE : hC E) (hs : s < 4) {v i : Int32} {y : Nat} (hy : y ≤ 40) (h2 : A (8 + s) 2 = nI y) (hi : ∀ j, j < y → i ≠ nI j) (h : Ph (some (.int 0)) A L) : qC E mm_X3_put (d + 1) [.ref (8 + s), .int i, .int v] A L Ph := by
  refine qC.enter (by decide) (Nat.le_of_ble_eq_true rfl) ?_
  refine r_iload_n dX3_put_0 rfl ?_
  refine r_aload_n dX3_put_1 rfl ?_
  refine r_getI dX3_put_2 fl_X3_23 (ly_sh hE hs) rfl ?_
  refine r_rw (y := nI y) h2 ?_
  refine r_callN2 dX3_put_5 lk_X3_32 (Nat.le_of_ble_eq_true rfl) (win_f y rfl (by omega) hi ?_)
  refine r_if_eq (tgt := 17) dX3_put_8 (by decide) (fun _ => ?_) (fun hqz => absurd (by decide) hqz)
  refine r_iconst (v := 0) dX3_put_17 rfl ?_
  refine r_ireturn dX3_put_18 rfl (by decide) ?_
  exact h
set_option maxRecDepth 100000 in
set_option maxHeartbeats 4000000 in
theorem at_ok (hE : hC E) (hs : s < 4) {i y : Nat} (hy : y ≤ 40) (h2 : A (8 + s) 2 = nI y) (hi : i < y) (h : Ph (some (.int (A (34 + s) i))) A L) : qC E mm_X3_at (d + 1) [.ref (8 + s), .int (nI i)] A L Ph := by
  refine qC.enter (by decide) (Nat.le_of_ble_eq_true rfl) ?_
  refine r_iload_n dX3_at_0 rfl ?_
  refine r_aload_n dX3_at_1 rfl ?_
  refine r_getI dX3_at_2 fl_X3_23 (ly_sh hE hs) rfl ?_
  refine r_rw (y := nI y) h2 ?_
  refine r_callN2 dX3_at_5 lk_X3_32 (Nat.le_of_ble_eq_true rfl) (win_t rfl (by omega) hi ?_)
  refine r_if_eq (tgt := 26) dX3_at_8 (by decide) (fun hqz => absurd hqz (by decide)) (fun _ => ?_)
  refine r_iload_n dX3_at_11 rfl ?_
  refine r_bipush (v := 40) dX3_at_12 rfl ?_
  refine r_icmp_ge (tgt := 26) dX3_at_14 (by decide) (fun hqz => absurd hqz (nI_ge (show i < 40 by omega) (by decide))) (fun _ => ?_)
  refine r_aload_n dX3_at_17 rfl ?_
  refine r_getR dX3_at_18 fl_X3_9 (ly_sh hE hs) rfl ?_
  refine r_iload_n dX3_at_21 rfl ?_
  refine r_ialdN dX3_at_22 (ly_ce hE hs) (by omega) (by decide) ?_
  refine r_goto (tgt := 27) dX3_at_23 (by decide) ?_
  refine r_ireturn dX3_at_27 rfl rfl ?_
  exact h
set_option maxRecDepth 100000 in
set_option maxHeartbeats 4000000 in
theorem fill_loop (hE : hC E) (hs : s < 4) {v : Int32} (h : Ph none (va_up A (34 + s) (fa_fill (fun _ => v) (A (34 + s)) 40)) L) : ∀ (k i : Nat), i + k = 40 → qG E mm_J7_fill_53178 d 5 [(3, .int 40), (2, .int (nI i)), (0, .ref (34 + s)), (1, .int v)] [] (va_up A (34 + s) (fa_fill (fun _ => v) (A (34 + s)) i)) L Ph := by
  intro k
  induction k with
  | zero =>
    intro i hi
    have hi : i = 40 := by omega
    subst hi
    refine r_iload_n dJ7_fill_53178_5 rfl ?_
    refine r_iload_n dJ7_fill_53178_6 rfl ?_
    refine r_icmp_ge (tgt := 20) dJ7_fill_53178_7 (by decide) (fun _ => ?_) (fun hqz => absurd (nI_le (Nat.le_refl 40) (by decide)) hqz)
    refine r_return dJ7_fill_53178_20 rfl ?_
    exact h
  | succ k ih =>
    intro i hi
    refine r_iload_n dJ7_fill_53178_5 rfl ?_
    refine r_iload_n dJ7_fill_53178_6 rfl ?_
    refine r_icmp_ge (tgt := 20) dJ7_fill_53178_7 (by decide) (fun hqz => absurd hqz (nI_ge (show i < 40 by omega) (by decide))) (fun _ => ?_)
    refine r_aload_n dJ7_fill_53178_10 rfl ?_
    refine r_iload_n dJ7_fill_53178_11 rfl ?_
    refine r_iload_n dJ7_fill_53178_12 rfl ?_
    refine r_iastN dJ7_fill_53178_13 (ly_ce hE hs) (by omega) (by decide) ?_
    refine r_iinc (v := (nI (i + 1))) (loc' := [(2, .int (nI (i + 1))), (3, .int 40), (0, .ref (34 + s)), (1, .int v)]) dJ7_fill_53178_14 rfl ((nI_succ _).symm) (by decide) rfl ?_
    refine r_goto (tgt := 5) dJ7_fill_53178_17 (by decide) ?_
    refine qG.pick [1, 0, 2, 3] rfl ?_
    rw [s2_up, fa_fill_succ (fun _ => v)]
    exact ih (i + 1) (by omega)
set_option maxRecDepth 100000 in
set_option maxHeartbeats 4000000 in
theorem sp_fill (hE : hC E) (hs : s < 4) {v : Int32} (h : Ph none (va_up A (34 + s) (fa_fill (fun _ => v) (A (34 + s)) 40)) L) : qC E mm_J7_fill_53178 d [.ref (34 + s), .int v] A L Ph := by
  have J := fill_loop (d := d) hE hs h 40 0 rfl
  rw [fa_fill_0, up_self] at J
  refine qC.enter (by decide) (Nat.le_of_ble_eq_true rfl) ?_
  refine r_iconst (v := 0) dJ7_fill_53178_0 rfl ?_
  refine r_istore_n (loc' := [(2, .int 0), (0, .ref (34 + s)), (1, .int v)]) dJ7_fill_53178_1 (by decide) rfl ?_
  refine r_aload_n dJ7_fill_53178_2 rfl ?_
  refine r_alen (v := 40) dJ7_fill_53178_3 (ly_ce hE hs) (by decide) rfl ?_
  refine r_istore_n (loc' := [(3, .int 40), (2, .int 0), (0, .ref (34 + s)), (1, .int v)]) dJ7_fill_53178_4 (by decide) rfl ?_
  exact J
set_option maxRecDepth 100000 in
set_option maxHeartbeats 4000000 in
theorem bcm_ok (hE : hC E) (hs : s < 4) {t : Int32} {y : Nat} (hy : y ≤ 40) (h : ∀ A', Fr [8 + s, 34 + s] A A' → A' (8 + s) 1 = t → A' (8 + s) 2 = nI y → (∀ i, i < 40 → A' (34 + s) i = 0) → Ph none A' L) : qC E mm_X3_become (d + 2) [.ref (8 + s), .int t, .int (nI y)] A L Ph := by
  refine qC.enter (by decide) (Nat.le_of_ble_eq_true rfl) ?_
  refine r_aload_n dX3_become_0 rfl ?_
  refine r_iload_n dX3_become_1 rfl ?_
  refine r_putI dX3_become_2 fl_X3_15 fp_3_1 (ly_sh hE hs) rfl rfl rfl ?_
  refine r_aload_n dX3_become_5 rfl ?_
  refine r_iload_n dX3_become_6 rfl ?_
  refine r_iconst (v := 0) dX3_become_7 rfl ?_
  refine r_bipush (v := 40) dX3_become_8 rfl ?_
  refine r_callN3 dX3_become_10 lk_X3_19 (Nat.le_of_ble_eq_true rfl) (sp_X6_bounded (by decide) ?_)
  refine r_rw (y := nI y) (clp_id (nI_pos' (by omega)) (nI_le (show y ≤ 40 from hy) (by decide))) ?_
  refine r_putI dX3_become_13 fl_X3_23 fp_3_2 (ly_sh hE hs) rfl rfl rfl ?_
  refine r_aload_n dX3_become_16 rfl ?_
  refine r_getR dX3_become_17 fl_X3_9 (ly_sh hE hs) rfl ?_
  refine r_iconst (v := 0) dX3_become_20 rfl ?_
  refine r_callS2 dX3_become_21 lk_X3_26 (Nat.le_of_ble_eq_true rfl) (sp_fill hE hs ?_)
  refine r_return dX3_become_24 rfl ?_
  refine h _ ((Fr.s2 (by simp)).tr ((Fr.s2 (by simp)).tr (Fr.up (by simp)))) ?_ ?_ (fun i hi => ?_)
  · rw [va_up_no (by omega), s2_nj (fun _ => by decide), s2_same]
  · rw [va_up_no (by omega), s2_same]
  · rw [va_up_eq, fa_fill_in hi]
set_option maxRecDepth 100000 in
set_option maxHeartbeats 4000000 in
theorem iss_t (hE : hM E) (hs : s < 4) (h : Ph (some (.int 1)) A L) : qC E mm_X7_isSheet (d + 1) [.int (nI s)] A L Ph := by
  refine qC.enter (by decide) (Nat.le_of_ble_eq_true rfl) ?_
  refine r_iload_n dX7_isSheet_0 rfl ?_
  refine r_iconst (v := 0) dX7_isSheet_1 rfl ?_
  refine r_iconst (v := 3) dX7_isSheet_2 rfl ?_
  refine r_callS3 dX7_isSheet_3 lk_X7_78 (Nat.le_of_ble_eq_true rfl) (in_t (lim := 4) rfl rfl (by decide) hs ?_)
  refine r_ireturn dX7_isSheet_6 rfl (by decide) ?_
  exact h
set_option maxRecDepth 100000 in
set_option maxHeartbeats 4000000 in
theorem iss_f (hE : hM E) {v : Int32} (hv : ∀ j, j < 4 → v ≠ nI j) (h : Ph (some (.int 0)) A L) : qC E mm_X7_isSheet (d + 1) [.int v] A L Ph := by
  refine qC.enter (by decide) (Nat.le_of_ble_eq_true rfl) ?_
  refine r_iload_n dX7_isSheet_0 rfl ?_
  refine r_iconst (v := 0) dX7_isSheet_1 rfl ?_
  refine r_iconst (v := 3) dX7_isSheet_2 rfl ?_
  refine r_callS3 dX7_isSheet_3 lk_X7_78 (Nat.le_of_ble_eq_true rfl) (in_f 4 rfl rfl (by decide) hv ?_)
  refine r_ireturn dX7_isSheet_6 rfl (by decide) ?_
  exact h
/-- sheet s laid anew -/
def shS (S : mA) (s : Nat) (t : Int32) (y : Nat) : mA := va_up (s2 (s2 S 53 s t) 54 s (nI y)) 55 (fb_put (S 55) (fun _ => 0) (40 * s) 40)
theorem shS_fr {S : mA} {s : Nat} {t : Int32} {y : Nat} : Fr [53, 54, 55] S (shS S s t y) := (Fr.s2 (by decide)).tr ((Fr.s2 (by decide)).tr (Fr.up (by decide)))
theorem shS_53 {S : mA} {s : Nat} {t : Int32} {y : Nat} : shS S s t y 53 = upd (S 53) s t := by unfold shS; rw [va_up_no (by decide), s2_ne (by decide), s2_eq]
theorem shS_54 {S : mA} {s : Nat} {t : Int32} {y : Nat} : shS S s t y 54 = upd (S 54) s (nI y) := by unfold shS; rw [va_up_no (by decide), s2_eq, s2_ne (by decide)]
theorem shS_55 {S : mA} {s : Nat} {t : Int32} {y : Nat} : shS S s t y 55 = fb_put (S 55) (fun _ => 0) (40 * s) 40 := va_up_eq
theorem shS_wf (hW : WfS S T n z) {t : Int32} {y : Nat} (ht : t = -1 ∨ ∃ q, q < 3 ∧ t = nI q) (hy : y ≤ 40) : WfS (shS S s t y) T n z := by
  refine hW.sh shS_fr (fun q hq => ?_)
  rw [shS_53, shS_54]
  by_cases e : q = s
  · subst e; rw [upd_eq, upd_eq]; exact ⟨ht, y, hy, rfl⟩
  · rw [u_no e, u_no e]; exact hW.2.2.2.2.2.2.2 q hq
theorem shS_rc {A A' : mA} (hs : s < 4) {t : Int32} {y : Nat} (hR : RC A S T n z) (hf : Fr [8 + s, 34 + s] A A') (h1 : A' (8 + s) 1 = t) (h2 : A' (8 + s) 2 = nI y) (h3 : ∀ i, i < 40 → A' (34 + s) i = 0) : RC A' (shS S s t y) T n z := by
  refine hR.sh shS_fr (hf.mo (by simp; omega)) (fun q hq => ?_)
  rw [shS_53, shS_54, shS_55]
  by_cases e : q = s
  · subst e
    rw [upd_eq, upd_eq]
    exact ⟨h1, h2, fun i hi => by rw [fb_put_in (by omega) (by omega)]; exact h3 i hi⟩
  · rw [u_no e, u_no e, hf (8 + q) (by simp; omega), hf (34 + q) (by simp; omega)]
    obtain ⟨a, b, c⟩ := hR.2.2.2.2.2 q hq
    exact ⟨a, b, fun i hi => by rw [fb_put_out (by omega)]; exact c i hi⟩
set_option maxRecDepth 100000 in
set_option maxHeartbeats 4000000 in
theorem zero_loop (hE : hM E) (hs : s < 4) {t u : Int32} (h : Ph (some (.int 1)) (va_up A 55 (fb_put (A 55) (fun _ => 0) (40 * s) 40)) L) : ∀ (k i : Nat), i + k = 40 → qG E mm_X7_sheet d 68 [(4, .int (nI i)), (0, .ref 38), (1, .int (nI s)), (2, .int t), (3, .int u)] [] (va_up A 55 (fb_put (A 55) (fun _ => 0) (40 * s) i)) L Ph := by
  intro k
  induction k with
  | zero =>
    intro i hi
    have hi : i = 40 := by omega
    subst hi
    refine r_iload dX7_sheet_68 rfl ?_
    refine r_bipush (v := 40) dX7_sheet_70 rfl ?_
    refine r_icmp_ge (tgt := 94) dX7_sheet_72 (by decide) (fun _ => ?_) (fun hqz => absurd (nI_le (Nat.le_refl 40) (by decide)) hqz)
    refine r_iconst (v := 1) dX7_sheet_94 rfl ?_
    refine r_ireturn dX7_sheet_95 rfl rfl ?_
    exact h
  | succ k ih =>
    intro i hi
    refine r_iload dX7_sheet_68 rfl ?_
    refine r_bipush (v := 40) dX7_sheet_70 rfl ?_
    refine r_icmp_ge (tgt := 94) dX7_sheet_72 (by decide) (fun hqz => absurd hqz (nI_ge (show i < 40 by omega) (by decide))) (fun _ => ?_)
    refine r_aload_n dX7_sheet_75 rfl ?_
    refine r_getR dX7_sheet_76 fl_X7_69 (ly_38 hE) rfl ?_
    refine r_bipush (v := 40) dX7_sheet_79 rfl ?_
    refine r_iload_n dX7_sheet_81 rfl ?_
    refine r_imul dX7_sheet_82 ?_
    refine r_iload dX7_sheet_83 rfl ?_
    refine r_iadd dX7_sheet_85 ?_
    refine r_rw (y := nI (40 * s + i)) (show nI 40 * nI s + nI i = _ by rw [pk_mul, nI_add]) ?_
    refine r_iconst (v := 0) dX7_sheet_86 rfl ?_
    refine r_iastN dX7_sheet_87 (ly_55 hE) (by omega) (by decide) ?_
    refine r_iinc (v := (nI (i + 1))) (loc' := [(4, .int (nI (i + 1))), (0, .ref 38), (1, .int (nI s)), (2, .int t), (3, .int u)]) dX7_sheet_88 rfl ((nI_succ _).symm) (by decide) rfl ?_
    refine r_goto (tgt := 68) dX7_sheet_91 (by decide) ?_
    refine qG.pick [0, 1, 2, 3, 4] rfl ?_
    rw [s2_up, fb_put_succ (A 55) (fun _ => 0)]
    exact ih (i + 1) (by omega)
end SHEETS
