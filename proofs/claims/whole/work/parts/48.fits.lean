/-! tells -/
def owF (far bm : Int32 → Int32) (cell : Nat → Int32) : Nat → Nat → Int32 → Int32
  | 0, _, _ => -1
  | k + 1, i, a => if far a = cell i then owF far bm cell k (i + 1) (bm a) else nI i
def ow (S : mA) (r : Nat) (kd nr : Int32) (s y : Nat) (a : Int32) : Int32 := owF (farF S r kd nr) (bmF S r kd nr) (fun i => S 55 (40 * s + i)) y 0 a
def SH (A S : mA) (s y : Nat) : Prop := A (8 + s) 2 = nI y ∧ ∀ i, i < 40 → A (34 + s) i = S 55 (40 * s + i)
theorem SH.fr {A A' S : mA} {s y : Nat} (h : SH A S s y) (hs : s < 4) (hf : Fr [5, 24, 26] A A') : SH A' S s y := by
  unfold SH at *
  rw [hf (8 + s) (by simp; omega), hf (34 + s) (by simp; omega)]
  exact h
theorem FrT.t {A A' : mA} (h : FrT A A') : Fr [5, 24, 26] A A' := h.1.mo (by decide)
def sh1 (i : Nat) : Int32 := 1 <<< (nI i &&& 31)
def bsF (f : Nat → Int32) : Nat → Nat → Int32 → Int32
  | 0, _, c => c
  | k + 1, i, c => bsF f k (i + 1) (c ||| if f i = -1 then sh1 i else 0)
def cA (f : Nat → Int32) : Nat → Nat
  | 0 => 0
  | i + 1 => cA f i + if f i = -1 then 1 else 0
def leF (f : Nat → Int32) : Nat → Nat → Int32
  | 0, _ => -1
  | k + 1, i => if f i = -1 then nI i else leF f k (i + 1)
theorem cA_le (f : Nat → Int32) : ∀ i, cA f i ≤ i
  | 0 => Nat.le_refl _
  | i + 1 => by
    have := cA_le f i
    rw [cA]
    split <;> omega
theorem cA_mo (f : Nat → Int32) {j : Nat} : ∀ k, cA f j ≤ cA f (j + k)
  | 0 => Nat.le_refl _
  | k + 1 => by
    have := cA_mo f (j := j) k
    rw [show j + (k + 1) = (j + k) + 1 from rfl, cA]
    omega
theorem dec1 (i : Nat) : nI i + Int32.ofInt (-1) = nI i - 1 := by
  rw [Int32.sub_eq_add_neg]
  rfl
theorem nI_1a {x : Int32} {a : Nat} (h : x = 0 ∨ x = 1) : nI a + x = nI (a + x.toNatClampNeg) := by
  rcases h with rfl | rfl
  · exact nI_add a 0
  · exact nI_add a 1
section OPS14
variable {E : mE} {d : Nat} {A S : mA} {L : mJ} {Ph : mP} {T n z p r s : Nat} {kd nr : Int32}
theorem CE.xk {k : Int32} (h : CE E A S T r kd nr) : CE E (s2 A 5 3 k) S T r k nr := by
  obtain ⟨h1, h2, h3, h4, h5, h6, h7⟩ := h
  refine ⟨h1, ?_, h3, h4, h5, ?_, h7⟩
  · unfold RCt at *
    rw [s2_ne (by decide), s2_ne (by decide), s2_ne (by decide)]
    exact h2
  · unfold TS at *
    rw [s2_same, s2_nj (fun _ => by decide), s2_ne (by decide)]
    exact ⟨h6.1, rfl, h6.2.2⟩
theorem CE.xn {q : Nat} (hq : q < 10) (h : CE E A S T r kd nr) : CE E (s2 A 26 2 (nI q)) S T r kd (nI q) := by
  obtain ⟨h1, h2, h3, h4, h5, h6, h7⟩ := h
  refine ⟨h1, ?_, h3, h4, h5, ?_, ⟨q, hq, rfl⟩⟩
  · unfold RCt at *
    rw [s2_ne (by decide), s2_ne (by decide), s2_ne (by decide)]
    exact h2
  · unfold TS at *
    obtain ⟨t1, t2, t3, t4, t5, t6⟩ := h6
    exact ⟨(congrFun (s2_ne (by decide)) 2).trans t1, (congrFun (s2_ne (by decide)) 3).trans t2, s2_same, (s2_nj (fun _ => by decide)).trans t4, (s2_nj (fun _ => by decide)).trans t5, (s2_nj (fun _ => by decide)).trans t6⟩
theorem CE.rl {q : Nat} (hq : q < T) (ht : ∃ e, TXv S q e) (h : CE E A S T r kd nr) : CE E (s2 A 5 2 (nI q)) S T q kd nr := by
  obtain ⟨h1, h2, h3, h4, h5, h6, h7⟩ := h
  refine ⟨h1, ?_, hq, h4, ht, ?_, h7⟩
  · unfold RCt at *
    rw [s2_ne (by decide), s2_ne (by decide), s2_ne (by decide)]
    exact h2
  · unfold TS at *
    rw [s2_same, s2_nj (fun _ => by decide), s2_ne (by decide)]
    exact ⟨rfl, h6.2⟩
theorem ME.tk {kd' nr' : Int32} {q : Nat} (hq : q < T) (ht : ∃ e, TXv S q e) (h : ME E A S T r kd nr) : ME E (s2 (s2 (s2 A 38 17 kd') 38 18 nr') 38 19 (nI q)) S T q kd' nr' := by
  obtain ⟨h1, h2, h3, h4, h5, h6⟩ := h
  refine ⟨h1, h2.fm ((FM.sc (by decide) (by decide) (by decide)).tr ((FM.sc (by decide) (by decide) (by decide)).tr (FM.sc (by decide) (by decide) (by decide)))), hq, h4, ht, ?_⟩
  unfold MT at *
  refine ⟨?_, ?_, s2_same, ?_⟩
  · rw [s2_nj (fun _ => by decide), s2_nj (fun _ => by decide), s2_same]
  · rw [s2_nj (fun _ => by decide), s2_same]
  · rw [s2_nj (fun _ => by decide), s2_nj (fun _ => by decide), s2_nj (fun _ => by decide)]
    exact h6.2.2.2
theorem fm_tk {kd' nr' v : Int32} : FM A (s2 (s2 (s2 A 38 17 kd') 38 18 nr') 38 19 v) := (FM.sc (by decide) (by decide) (by decide)).tr ((FM.sc (by decide) (by decide) (by decide)).tr (FM.sc (by decide) (by decide) (by decide)))
set_option maxRecDepth 100000 in
set_option maxHeartbeats 400000 in
theorem sp_renum (hE : hC E) {v : Int32} (h : Ph none (s2 A 26 2 v) L) : qC E mm_X4_renumber d [.ref 5, .int v] A L Ph := by
  refine qC.enter (by decide) (Nat.le_of_ble_eq_true rfl) ?_
  refine r_aload_n dX4_renumber_0 rfl ?_
  refine r_getR dX4_renumber_1 fl_X4_9 (ly_5 hE) rfl ?_
  refine r_iconst (v := (nI 2)) dX4_renumber_4 rfl ?_
  refine r_iload_n dX4_renumber_5 rfl ?_
  refine r_iastN dX4_renumber_6 (ly_26 hE) (by decide) (by decide) ?_
  refine r_return dX4_renumber_7 rfl ?_
  exact h
set_option maxRecDepth 100000 in
set_option maxHeartbeats 400000 in
theorem cow_loop {a0 : Int32} (hs : s < 4) {y : Nat} (hy : y ≤ 40) : ∀ (k i : Nat) (a : Int32) (A : mA), i + k = y → CE E A S T r kd nr → SH A S s y → (∀ A', FrT A A' → Ph (some (.int (owF (farF S r kd nr) (bmF S r kd nr) (fun i => S 55 (40 * s + i)) k i a))) A' L) → qG E mm_X6_firstOtherwise (d + 4) 5 [(4, .int (nI i)), (3, .int a), (0, .ref 0), (1, .ref (8 + s)), (2, .int a0)] [] A L Ph := by
  intro k
  induction k with
  | zero =>
    intro i a A hi hc hh h
    have hE := hc.1
    have hi : i = y := by omega
    subst hi
    refine r_iload dX6_firstOtherwise_5 rfl ?_
    refine r_aload_n dX6_firstOtherwise_7 rfl ?_
    refine r_getI dX6_firstOtherwise_8 fl_X6_276 (ly_sh hE hs) rfl ?_
    refine r_rw (y := nI i) hh.1 ?_
    refine r_icmp_ge (tgt := 49) dX6_firstOtherwise_11 (by decide) (fun _ => ?_) (fun hqz => absurd (nI_le (Nat.le_refl _) (by omega)) hqz)
    refine r_iconst (v := (-1)) dX6_firstOtherwise_49 rfl ?_
    refine r_ireturn dX6_firstOtherwise_50 rfl rfl ?_
    exact h A FrT.rf
  | succ k ih =>
    intro i a A hi hc hh h
    have hE := hc.1
    rw [owF] at h
    refine r_iload dX6_firstOtherwise_5 rfl ?_
    refine r_aload_n dX6_firstOtherwise_7 rfl ?_
    refine r_getI dX6_firstOtherwise_8 fl_X6_276 (ly_sh hE hs) rfl ?_
    refine r_rw (y := nI y) hh.1 ?_
    refine r_icmp_ge (tgt := 49) dX6_firstOtherwise_11 (by decide) (fun hqz => absurd hqz (nI_ge (show i < y by omega) (by omega))) (fun _ => ?_)
    refine r_aload_n dX6_firstOtherwise_14 rfl ?_
    refine r_getR dX6_firstOtherwise_15 fl_X6_38 (ly_0 hE) rfl ?_
    refine r_iload_n dX6_firstOtherwise_18 rfl ?_
    refine r_callV1 dX6_firstOtherwise_19 lk_X6_138 (ly_5 hE) rfl (Nat.le_of_ble_eq_true rfl) (sp_X4_far hc (fun A1 f1 => ?_))
    have h1 := hh.fr hs f1.t
    refine r_aload_n dX6_firstOtherwise_22 rfl ?_
    refine r_iload dX6_firstOtherwise_23 rfl ?_
    refine r_callV1 dX6_firstOtherwise_25 lk_X6_277 (ly_sh hE hs) rfl (Nat.le_of_ble_eq_true rfl) (at_ok hE hs hy h1.1 (show i < y by omega) ?_)
    refine r_rw (y := S 55 (40 * s + i)) (h1.2 i (by omega)) ?_
    refine r_icmp_eq (tgt := 34) dX6_firstOtherwise_28 (by decide) (fun b28 => ?_) (fun b28 => ?_)
    · refine r_aload_n dX6_firstOtherwise_34 rfl ?_
      refine r_getR dX6_firstOtherwise_35 fl_X6_38 (ly_0 hE) rfl ?_
      refine r_iload_n dX6_firstOtherwise_38 rfl ?_
      refine r_callV1 dX6_firstOtherwise_39 lk_X6_159 (ly_5 hE) rfl (Nat.le_of_ble_eq_true rfl) (sp_X4_cooled (hc.fr f1) (fun A2 f2 => ?_))
      refine r_topi (fun v42 e42 => ?_)
      refine r_istore_n (loc' := [(3, .int v42), (4, .int (nI i)), (0, .ref 0), (1, .ref (8 + s)), (2, .int a0)]) dX6_firstOtherwise_42 (by decide) rfl ?_
      refine r_iinc (v := (nI (i + 1))) (loc' := [(4, .int (nI (i + 1))), (3, .int v42), (0, .ref 0), (1, .ref (8 + s)), (2, .int a0)]) dX6_firstOtherwise_43 rfl ((nI_succ _).symm) (by decide) rfl ?_
      refine r_goto (tgt := 5) dX6_firstOtherwise_46 (by decide) ?_
      refine qG.pick [0, 1, 2, 3, 4] rfl ?_
      rw [if_pos b28] at h
      subst e42
      exact ih (i + 1) _ A2 (by omega) ((hc.fr f1).fr f2) (h1.fr hs f2.t) (fun A3 f3 => h A3 ((f1.tr f2).tr f3))
    · refine r_iload dX6_firstOtherwise_31 rfl ?_
      refine r_ireturn dX6_firstOtherwise_33 rfl rfl ?_
      rw [if_neg b28] at h
      exact h A1 f1
set_option maxRecDepth 100000 in
set_option maxHeartbeats 400000 in
theorem sp_first (hs : s < 4) {y : Nat} (hy : y ≤ 40) (hc : CE E A S T r kd nr) (hh : SH A S s y) {a : Int32} (h : ∀ A', FrT A A' → Ph (some (.int (ow S r kd nr s y a))) A' L) : qC E mm_X6_firstOtherwise (d + 4) [.ref 0, .ref (8 + s), .int a] A L Ph := by
  have hE := hc.1
  refine qC.enter (by decide) (Nat.le_of_ble_eq_true rfl) ?_
  refine r_iload_n dX6_firstOtherwise_0 rfl ?_
  refine r_istore_n (loc' := [(3, .int a), (0, .ref 0), (1, .ref (8 + s)), (2, .int a)]) dX6_firstOtherwise_1 (by decide) rfl ?_
  refine r_iconst (v := 0) dX6_firstOtherwise_2 rfl ?_
  refine r_istore (loc' := [(4, .int 0), (3, .int a), (0, .ref 0), (1, .ref (8 + s)), (2, .int a)]) dX6_firstOtherwise_3 (by decide) rfl ?_
  exact cow_loop hs hy y 0 a A (by omega) hc hh h
set_option maxRecDepth 100000 in
set_option maxHeartbeats 400000 in
theorem mow_loop {a0 : Int32} (hs : s < 4) {y : Nat} (hy : y ≤ 40) (h54 : S 54 s = nI y) : ∀ (k i : Nat) (a : Int32) (A : mA), i + k = y → ME E A S T r kd nr → (∀ A', Fr [46] A A' → Ph (some (.int (owF (farF S r kd nr) (bmF S r kd nr) (fun i => S 55 (40 * s + i)) k i a))) A' L) → qG E mm_X7_otherwise (d + 5) 5 [(4, .int (nI i)), (3, .int a), (0, .ref 38), (1, .int (nI s)), (2, .int a0)] [] A L Ph := by
  intro k
  induction k with
  | zero =>
    intro i a A hi hm h
    have hE := hm.1
    have r54 := hm.rm.2.2.2.2.2.2.2.2.2.1
    have hi : i = y := by omega
    subst hi
    refine r_iload dX7_otherwise_5 rfl ?_
    refine r_aload_n dX7_otherwise_7 rfl ?_
    refine r_getR dX7_otherwise_8 fl_X7_66 (ly_38 hE) rfl ?_
    refine r_iload_n dX7_otherwise_11 rfl ?_
    refine r_ialdN dX7_otherwise_12 (ly_54 hE) (by omega) (by decide) ?_
    refine r_rw (y := nI i) (by rw [r54]; exact h54) ?_
    refine r_icmp_ge (tgt := 51) dX7_otherwise_13 (by decide) (fun _ => ?_) (fun hqz => absurd (nI_le (Nat.le_refl _) (by omega)) hqz)
    refine r_iconst (v := (-1)) dX7_otherwise_51 rfl ?_
    refine r_ireturn dX7_otherwise_52 rfl rfl ?_
    exact h A Fr.rf
  | succ k ih =>
    intro i a A hi hm h
    have hE := hm.1
    have r54 := hm.rm.2.2.2.2.2.2.2.2.2.1
    rw [owF] at h
    refine r_iload dX7_otherwise_5 rfl ?_
    refine r_aload_n dX7_otherwise_7 rfl ?_
    refine r_getR dX7_otherwise_8 fl_X7_66 (ly_38 hE) rfl ?_
    refine r_iload_n dX7_otherwise_11 rfl ?_
    refine r_ialdN dX7_otherwise_12 (ly_54 hE) (by omega) (by decide) ?_
    refine r_rw (y := nI y) (by rw [r54]; exact h54) ?_
    refine r_icmp_ge (tgt := 51) dX7_otherwise_13 (by decide) (fun hqz => absurd hqz (nI_ge (show i < y by omega) (by omega))) (fun _ => ?_)
    refine r_aload_n dX7_otherwise_16 rfl ?_
    refine r_iload_n dX7_otherwise_17 rfl ?_
    refine r_callV1 dX7_otherwise_18 lk_X7_113 (ly_38 hE) rfl (Nat.le_of_ble_eq_true rfl) (sp_X7_far hm (fun A1 f1 => ?_))
    have r55 := (hm.f46 f1).rm.2.2.2.2.2.2.2.2.2.2.1
    refine r_aload_n dX7_otherwise_21 rfl ?_
    refine r_getR dX7_otherwise_22 fl_X7_69 (ly_38 hE) rfl ?_
    refine r_bipush (v := 40) dX7_otherwise_25 rfl ?_
    refine r_iload_n dX7_otherwise_27 rfl ?_
    refine r_imul dX7_otherwise_28 ?_
    refine r_iload dX7_otherwise_29 rfl ?_
    refine r_iadd dX7_otherwise_31 ?_
    refine r_rw (y := nI (40 * s + i)) (show nI 40 * nI s + nI i = _ by rw [pk_mul, nI_add]) ?_
    refine r_ialdN dX7_otherwise_32 (ly_55 hE) (by omega) (by decide) ?_
    refine r_rw (y := S 55 (40 * s + i)) (by rw [r55]) ?_
    refine r_icmp_eq (tgt := 39) dX7_otherwise_33 (by decide) (fun b33 => ?_) (fun b33 => ?_)
    · refine r_aload_n dX7_otherwise_39 rfl ?_
      refine r_iload_n dX7_otherwise_40 rfl ?_
      refine r_callV1 dX7_otherwise_41 lk_X7_215 (ly_38 hE) rfl (Nat.le_of_ble_eq_true rfl) (sp_X7_behindMinute (hm.f46 f1) (fun A2 f2 => ?_))
      refine r_topi (fun v44 e44 => ?_)
      refine r_istore_n (loc' := [(3, .int v44), (4, .int (nI i)), (0, .ref 38), (1, .int (nI s)), (2, .int a0)]) dX7_otherwise_44 (by decide) rfl ?_
      refine r_iinc (v := (nI (i + 1))) (loc' := [(4, .int (nI (i + 1))), (3, .int v44), (0, .ref 38), (1, .int (nI s)), (2, .int a0)]) dX7_otherwise_45 rfl ((nI_succ _).symm) (by decide) rfl ?_
      refine r_goto (tgt := 5) dX7_otherwise_48 (by decide) ?_
      refine qG.pick [0, 1, 2, 3, 4] rfl ?_
      rw [if_pos b33] at h
      subst e44
      exact ih (i + 1) _ A2 (by omega) ((hm.f46 f1).f46 f2) (fun A3 f3 => h A3 ((f1.tr f2).tr f3))
    · refine r_iload dX7_otherwise_36 rfl ?_
      refine r_ireturn dX7_otherwise_38 rfl rfl ?_
      rw [if_neg b33] at h
      exact h A1 f1
set_option maxRecDepth 100000 in
set_option maxHeartbeats 400000 in
theorem sp_other (hs : s < 4) {y : Nat} (hy : y ≤ 40) (h54 : S 54 s = nI y) (hm : ME E A S T r kd nr) {a : Int32} (h : ∀ A', Fr [46] A A' → Ph (some (.int (ow S r kd nr s y a))) A' L) : qC E mm_X7_otherwise (d + 5) [.ref 38, .int (nI s), .int a] A L Ph := by
  have hE := hm.1
  refine qC.enter (by decide) (Nat.le_of_ble_eq_true rfl) ?_
  refine r_iload_n dX7_otherwise_0 rfl ?_
  refine r_istore_n (loc' := [(3, .int a), (0, .ref 38), (1, .int (nI s)), (2, .int a)]) dX7_otherwise_1 (by decide) rfl ?_
  refine r_iconst (v := 0) dX7_otherwise_2 rfl ?_
  refine r_istore (loc' := [(4, .int 0), (3, .int a), (0, .ref 38), (1, .int (nI s)), (2, .int a)]) dX7_otherwise_3 (by decide) rfl ?_
  exact mow_loop hs hy h54 y 0 a A (by omega) hm h
set_option maxRecDepth 100000 in
set_option maxHeartbeats 400000 in
theorem sp_fits (hs : s < 4) {y : Nat} (hy : y ≤ 40) (h54 : S 54 s = nI y) (hm : ME E A S T r kd nr) {a : Int32} (h1 : ∀ A', Fr [46] A A' → ow S r kd nr s y a = -1 → Ph (some (.int 1)) A' L) (h0 : ∀ A', Fr [46] A A' → ¬ ow S r kd nr s y a = -1 → Ph (some (.int 0)) A' L) : qC E mm_X7_fits (d + 6) [.ref 38, .int (nI s), .int a] A L Ph := by
  have hE := hm.1
  refine qC.enter (by decide) (Nat.le_of_ble_eq_true rfl) ?_
  refine r_aload_n dX7_fits_0 rfl ?_
  refine r_iload_n dX7_fits_1 rfl ?_
  refine r_iload_n dX7_fits_2 rfl ?_
  refine r_callV2 dX7_fits_3 lk_X7_260 (ly_38 hE) rfl (Nat.le_of_ble_eq_true rfl) (sp_other hs hy h54 hm (fun A1 f1 => ?_))
  refine r_iconst (v := (-1)) dX7_fits_6 rfl ?_
  refine r_icmp_ne (tgt := 14) dX7_fits_7 (by decide) (fun b7 => ?_) (fun b7 => ?_)
  · refine r_iconst (v := 0) dX7_fits_14 rfl ?_
    refine r_ireturn dX7_fits_15 rfl (by decide) ?_
    first | exact h1 A1 f1 b7 | exact h0 A1 f1 b7
  · refine r_iconst (v := 1) dX7_fits_10 rfl ?_
    refine r_goto (tgt := 15) dX7_fits_11 (by decide) ?_
    refine r_ireturn dX7_fits_15 rfl (by decide) ?_
    first | exact h1 A1 f1 b7 | exact h0 A1 f1 b7
set_option maxRecDepth 100000 in
set_option maxHeartbeats 400000 in
theorem ck_loop (hs : s < 4) {y : Nat} (hy : y ≤ 40) {a : Int32} : ∀ (k i : Nat) (c : Int32) (A : mA) (kd : Int32), i + k = 6 → CE E A S T r kd nr → SH A S s y → (∀ A', Fr [5, 24, 26] A A' → Ph (some (.int (bsF (fun v => ow S r (nI v) nr s y a) k i c))) A' L) → qG E mm_X6_fittingKinds (d + 5) 5 [(4, .int (nI i)), (3, .int c), (0, .ref 0), (1, .ref (8 + s)), (2, .int a)] [] A L Ph := by
  intro k
  induction k with
  | zero =>
    intro i c A kd hi hc hh h
    have hE := hc.1
    have hlim : 6 ≤ 10 := by decide
    have hi : i = 6 := by omega
    subst hi
    refine r_iload dX6_fittingKinds_5 rfl ?_
    refine r_bipush (v := 6) dX6_fittingKinds_7 rfl ?_
    refine r_icmp_ge (tgt := 48) dX6_fittingKinds_9 (by decide) (fun _ => ?_) (fun hqz => absurd (nI_le (Nat.le_refl _) (by decide)) hqz)
    refine r_iload_n dX6_fittingKinds_48 rfl ?_
    refine r_ireturn dX6_fittingKinds_49 rfl rfl ?_
    exact h A Fr.rf
  | succ k ih =>
    intro i c A kd hi hc hh h
    have hE := hc.1
    have hlim : 6 ≤ 10 := by decide
    rw [bsF] at h
    refine r_iload dX6_fittingKinds_5 rfl ?_
    refine r_bipush (v := 6) dX6_fittingKinds_7 rfl ?_
    refine r_icmp_ge (tgt := 48) dX6_fittingKinds_9 (by decide) (fun hqz => absurd hqz (nI_ge (show i < 6 by omega) (by decide))) (fun _ => ?_)
    refine r_aload_n dX6_fittingKinds_12 rfl ?_
    refine r_getR dX6_fittingKinds_13 fl_X6_38 (ly_0 hE) rfl ?_
    refine r_iload dX6_fittingKinds_16 rfl ?_
    refine r_putI dX6_fittingKinds_18 fl_X6_280 fp_4_3 (ly_5 hE) rfl rfl rfl ?_
    refine r_iload_n dX6_fittingKinds_21 rfl ?_
    refine r_aload_n dX6_fittingKinds_22 rfl ?_
    refine r_aload_n dX6_fittingKinds_23 rfl ?_
    refine r_iload_n dX6_fittingKinds_24 rfl ?_
    refine r_callV2 dX6_fittingKinds_25 lk_X6_250 (ly_0 hE) rfl (Nat.le_of_ble_eq_true rfl) (sp_first hs hy hc.xk (hh.fr hs (Fr.s2 (by decide))) (fun A2 f2 => ?_))
    refine r_iconst (v := (-1)) dX6_fittingKinds_28 rfl ?_
    refine r_icmp_ne (tgt := 39) dX6_fittingKinds_29 (by decide) (fun b29 => ?_) (fun b29 => ?_)
    · refine r_iconst (v := 0) dX6_fittingKinds_39 rfl ?_
      refine r_ior dX6_fittingKinds_40 ?_
      refine r_topi (fun v41 e41 => ?_)
      refine r_istore_n (loc' := [(3, .int v41), (4, .int (nI i)), (0, .ref 0), (1, .ref (8 + s)), (2, .int a)]) dX6_fittingKinds_41 (by decide) rfl ?_
      refine r_iinc (v := (nI (i + 1))) (loc' := [(4, .int (nI (i + 1))), (3, .int v41), (0, .ref 0), (1, .ref (8 + s)), (2, .int a)]) dX6_fittingKinds_42 rfl ((nI_succ _).symm) (by decide) rfl ?_
      refine r_goto (tgt := 5) dX6_fittingKinds_45 (by decide) ?_
      refine qG.pick [0, 1, 2, 3, 4] rfl ?_
      rw [show (c ||| if ow S r (nI i) nr s y a = -1 then sh1 i else 0) = v41 from by subst e41; first | (rw [if_pos b29]; rfl) | (rw [if_neg b29]; done)] at h
      exact ih (i + 1) _ A2 _ (by omega) (hc.xk.fr f2) ((hh.fr hs (Fr.s2 (by decide))).fr hs f2.t) (fun A3 f3 => h A3 ((((Fr.s2 (by decide)).tr f2.t).tr f3)))
    · refine r_iconst (v := 1) dX6_fittingKinds_32 rfl ?_
      refine r_iload dX6_fittingKinds_33 rfl ?_
      refine r_ishl dX6_fittingKinds_35 ?_
      refine r_goto (tgt := 40) dX6_fittingKinds_36 (by decide) ?_
      refine r_ior dX6_fittingKinds_40 ?_
      refine r_topi (fun v41 e41 => ?_)
      refine r_istore_n (loc' := [(3, .int v41), (4, .int (nI i)), (0, .ref 0), (1, .ref (8 + s)), (2, .int a)]) dX6_fittingKinds_41 (by decide) rfl ?_
      refine r_iinc (v := (nI (i + 1))) (loc' := [(4, .int (nI (i + 1))), (3, .int v41), (0, .ref 0), (1, .ref (8 + s)), (2, .int a)]) dX6_fittingKinds_42 rfl ((nI_succ _).symm) (by decide) rfl ?_
      refine r_goto (tgt := 5) dX6_fittingKinds_45 (by decide) ?_
      refine qG.pick [0, 1, 2, 3, 4] rfl ?_
      rw [show (c ||| if ow S r (nI i) nr s y a = -1 then sh1 i else 0) = v41 from by subst e41; first | (rw [if_pos b29]; rfl) | (rw [if_neg b29]; done)] at h
      exact ih (i + 1) _ A2 _ (by omega) (hc.xk.fr f2) ((hh.fr hs (Fr.s2 (by decide))).fr hs f2.t) (fun A3 f3 => h A3 ((((Fr.s2 (by decide)).tr f2.t).tr f3)))
set_option maxRecDepth 100000 in
set_option maxHeartbeats 400000 in
theorem cn_loop (hs : s < 4) {y : Nat} (hy : y ≤ 40) {a : Int32} : ∀ (k i : Nat) (c : Int32) (A : mA) (nr : Int32), i + k = 10 → CE E A S T r kd nr → SH A S s y → (∀ A', Fr [5, 24, 26] A A' → Ph (some (.int (bsF (fun v => ow S r kd (nI v) s y a) k i c))) A' L) → qG E mm_X6_fittingNumbers (d + 5) 5 [(4, .int (nI i)), (3, .int c), (0, .ref 0), (1, .ref (8 + s)), (2, .int a)] [] A L Ph := by
  intro k
  induction k with
  | zero =>
    intro i c A nr hi hc hh h
    have hE := hc.1
    have hlim : 10 ≤ 10 := by decide
    have hi : i = 10 := by omega
    subst hi
    refine r_iload dX6_fittingNumbers_5 rfl ?_
    refine r_bipush (v := 10) dX6_fittingNumbers_7 rfl ?_
    refine r_icmp_ge (tgt := 48) dX6_fittingNumbers_9 (by decide) (fun _ => ?_) (fun hqz => absurd (nI_le (Nat.le_refl _) (by decide)) hqz)
    refine r_iload_n dX6_fittingNumbers_48 rfl ?_
    refine r_ireturn dX6_fittingNumbers_49 rfl rfl ?_
    exact h A Fr.rf
  | succ k ih =>
    intro i c A nr hi hc hh h
    have hE := hc.1
    have hlim : 10 ≤ 10 := by decide
    rw [bsF] at h
    refine r_iload dX6_fittingNumbers_5 rfl ?_
    refine r_bipush (v := 10) dX6_fittingNumbers_7 rfl ?_
    refine r_icmp_ge (tgt := 48) dX6_fittingNumbers_9 (by decide) (fun hqz => absurd hqz (nI_ge (show i < 10 by omega) (by decide))) (fun _ => ?_)
    refine r_aload_n dX6_fittingNumbers_12 rfl ?_
    refine r_getR dX6_fittingNumbers_13 fl_X6_38 (ly_0 hE) rfl ?_
    refine r_iload dX6_fittingNumbers_16 rfl ?_
    refine r_callV1 dX6_fittingNumbers_18 lk_X6_283 (ly_5 hE) rfl (Nat.le_of_ble_eq_true rfl) (sp_renum hE ?_)
    refine r_iload_n dX6_fittingNumbers_21 rfl ?_
    refine r_aload_n dX6_fittingNumbers_22 rfl ?_
    refine r_aload_n dX6_fittingNumbers_23 rfl ?_
    refine r_iload_n dX6_fittingNumbers_24 rfl ?_
    refine r_callV2 dX6_fittingNumbers_25 lk_X6_250 (ly_0 hE) rfl (Nat.le_of_ble_eq_true rfl) (sp_first hs hy (hc.xn (show i < 10 by omega)) (hh.fr hs (Fr.s2 (by decide))) (fun A2 f2 => ?_))
    refine r_iconst (v := (-1)) dX6_fittingNumbers_28 rfl ?_
    refine r_icmp_ne (tgt := 39) dX6_fittingNumbers_29 (by decide) (fun b29 => ?_) (fun b29 => ?_)
    · refine r_iconst (v := 0) dX6_fittingNumbers_39 rfl ?_
      refine r_ior dX6_fittingNumbers_40 ?_
      refine r_topi (fun v41 e41 => ?_)
      refine r_istore_n (loc' := [(3, .int v41), (4, .int (nI i)), (0, .ref 0), (1, .ref (8 + s)), (2, .int a)]) dX6_fittingNumbers_41 (by decide) rfl ?_
      refine r_iinc (v := (nI (i + 1))) (loc' := [(4, .int (nI (i + 1))), (3, .int v41), (0, .ref 0), (1, .ref (8 + s)), (2, .int a)]) dX6_fittingNumbers_42 rfl ((nI_succ _).symm) (by decide) rfl ?_
      refine r_goto (tgt := 5) dX6_fittingNumbers_45 (by decide) ?_
      refine qG.pick [0, 1, 2, 3, 4] rfl ?_
      rw [show (c ||| if ow S r kd (nI i) s y a = -1 then sh1 i else 0) = v41 from by subst e41; first | (rw [if_pos b29]; rfl) | (rw [if_neg b29]; done)] at h
      exact ih (i + 1) _ A2 _ (by omega) ((hc.xn (show i < 10 by omega)).fr f2) ((hh.fr hs (Fr.s2 (by decide))).fr hs f2.t) (fun A3 f3 => h A3 ((((Fr.s2 (by decide)).tr f2.t).tr f3)))
    · refine r_iconst (v := 1) dX6_fittingNumbers_32 rfl ?_
      refine r_iload dX6_fittingNumbers_33 rfl ?_
      refine r_ishl dX6_fittingNumbers_35 ?_
      refine r_goto (tgt := 40) dX6_fittingNumbers_36 (by decide) ?_
      refine r_ior dX6_fittingNumbers_40 ?_
      refine r_topi (fun v41 e41 => ?_)
      refine r_istore_n (loc' := [(3, .int v41), (4, .int (nI i)), (0, .ref 0), (1, .ref (8 + s)), (2, .int a)]) dX6_fittingNumbers_41 (by decide) rfl ?_
      refine r_iinc (v := (nI (i + 1))) (loc' := [(4, .int (nI (i + 1))), (3, .int v41), (0, .ref 0), (1, .ref (8 + s)), (2, .int a)]) dX6_fittingNumbers_42 rfl ((nI_succ _).symm) (by decide) rfl ?_
      refine r_goto (tgt := 5) dX6_fittingNumbers_45 (by decide) ?_
      refine qG.pick [0, 1, 2, 3, 4] rfl ?_
      rw [show (c ||| if ow S r kd (nI i) s y a = -1 then sh1 i else 0) = v41 from by subst e41; first | (rw [if_pos b29]; rfl) | (rw [if_neg b29]; done)] at h
      exact ih (i + 1) _ A2 _ (by omega) ((hc.xn (show i < 10 by omega)).fr f2) ((hh.fr hs (Fr.s2 (by decide))).fr hs f2.t) (fun A3 f3 => h A3 ((((Fr.s2 (by decide)).tr f2.t).tr f3)))
set_option maxRecDepth 100000 in
set_option maxHeartbeats 400000 in
theorem ct_loop (hs : s < 4) {y : Nat} (hy : y ≤ 40) {a : Int32} (hT : T ≤ 6) (h11 : S 38 11 = nI T) (hx : ∀ r, r < T → ∃ e, TXv S r e) : ∀ (k i : Nat) (c : Int32) (A : mA) (r : Nat), i + k = T → CE E A S T r kd nr → SH A S s y → (∀ A', Fr [5, 24, 26] A A' → Ph (some (.int (bsF (fun v => ow S v kd nr s y a) k i c))) A' L) → qG E mm_X6_fittingTexts (d + 5) 5 [(4, .int (nI i)), (3, .int c), (0, .ref 0), (1, .ref (8 + s)), (2, .int a)] [] A L Ph := by
  intro k
  induction k with
  | zero =>
    intro i c A r hi hc hh h
    have hE := hc.1
    have hlim : T ≤ 10 := (by omega)
    have hi : i = T := by omega
    subst hi
    refine r_iload dX6_fittingTexts_5 rfl ?_
    refine r_aload_n dX6_fittingTexts_7 rfl ?_
    refine r_getR dX6_fittingTexts_8 fl_X6_22 (ly_0 hE) rfl ?_
    refine r_getI dX6_fittingTexts_11 fl_X6_145 (ly_3 hE) rfl ?_
    refine r_rw (y := nI i) (hc.2.1.1.trans h11) ?_
    refine r_icmp_ge (tgt := 53) dX6_fittingTexts_14 (by decide) (fun _ => ?_) (fun hqz => absurd (nI_le (Nat.le_refl _) (by omega)) hqz)
    refine r_iload_n dX6_fittingTexts_53 rfl ?_
    refine r_ireturn dX6_fittingTexts_54 rfl rfl ?_
    exact h A Fr.rf
  | succ k ih =>
    intro i c A r hi hc hh h
    have hE := hc.1
    have hlim : T ≤ 10 := (by omega)
    rw [bsF] at h
    refine r_iload dX6_fittingTexts_5 rfl ?_
    refine r_aload_n dX6_fittingTexts_7 rfl ?_
    refine r_getR dX6_fittingTexts_8 fl_X6_22 (ly_0 hE) rfl ?_
    refine r_getI dX6_fittingTexts_11 fl_X6_145 (ly_3 hE) rfl ?_
    refine r_rw (y := nI T) (hc.2.1.1.trans h11) ?_
    refine r_icmp_ge (tgt := 53) dX6_fittingTexts_14 (by decide) (fun hqz => absurd hqz (nI_ge (show i < T by omega) (by omega))) (fun _ => ?_)
    refine r_aload_n dX6_fittingTexts_17 rfl ?_
    refine r_getR dX6_fittingTexts_18 fl_X6_38 (ly_0 hE) rfl ?_
    refine r_iload dX6_fittingTexts_21 rfl ?_
    refine r_putI dX6_fittingTexts_23 fl_X6_287 fp_4_2 (ly_5 hE) rfl rfl rfl ?_
    refine r_iload_n dX6_fittingTexts_26 rfl ?_
    refine r_aload_n dX6_fittingTexts_27 rfl ?_
    refine r_aload_n dX6_fittingTexts_28 rfl ?_
    refine r_iload_n dX6_fittingTexts_29 rfl ?_
    refine r_callV2 dX6_fittingTexts_30 lk_X6_250 (ly_0 hE) rfl (Nat.le_of_ble_eq_true rfl) (sp_first hs hy (hc.rl (show i < T by omega) (hx i (by omega))) (hh.fr hs (Fr.s2 (by decide))) (fun A2 f2 => ?_))
    refine r_iconst (v := (-1)) dX6_fittingTexts_33 rfl ?_
    refine r_icmp_ne (tgt := 44) dX6_fittingTexts_34 (by decide) (fun b34 => ?_) (fun b34 => ?_)
    · refine r_iconst (v := 0) dX6_fittingTexts_44 rfl ?_
      refine r_ior dX6_fittingTexts_45 ?_
      refine r_topi (fun v46 e46 => ?_)
      refine r_istore_n (loc' := [(3, .int v46), (4, .int (nI i)), (0, .ref 0), (1, .ref (8 + s)), (2, .int a)]) dX6_fittingTexts_46 (by decide) rfl ?_
      refine r_iinc (v := (nI (i + 1))) (loc' := [(4, .int (nI (i + 1))), (3, .int v46), (0, .ref 0), (1, .ref (8 + s)), (2, .int a)]) dX6_fittingTexts_47 rfl ((nI_succ _).symm) (by decide) rfl ?_
      refine r_goto (tgt := 5) dX6_fittingTexts_50 (by decide) ?_
      refine qG.pick [0, 1, 2, 3, 4] rfl ?_
      rw [show (c ||| if ow S i kd nr s y a = -1 then sh1 i else 0) = v46 from by subst e46; first | (rw [if_pos b34]; rfl) | (rw [if_neg b34]; done)] at h
      exact ih (i + 1) _ A2 _ (by omega) ((hc.rl (show i < T by omega) (hx i (by omega))).fr f2) ((hh.fr hs (Fr.s2 (by decide))).fr hs f2.t) (fun A3 f3 => h A3 ((((Fr.s2 (by decide)).tr f2.t).tr f3)))
    · refine r_iconst (v := 1) dX6_fittingTexts_37 rfl ?_
      refine r_iload dX6_fittingTexts_38 rfl ?_
      refine r_ishl dX6_fittingTexts_40 ?_
      refine r_goto (tgt := 45) dX6_fittingTexts_41 (by decide) ?_
      refine r_ior dX6_fittingTexts_45 ?_
      refine r_topi (fun v46 e46 => ?_)
      refine r_istore_n (loc' := [(3, .int v46), (4, .int (nI i)), (0, .ref 0), (1, .ref (8 + s)), (2, .int a)]) dX6_fittingTexts_46 (by decide) rfl ?_
      refine r_iinc (v := (nI (i + 1))) (loc' := [(4, .int (nI (i + 1))), (3, .int v46), (0, .ref 0), (1, .ref (8 + s)), (2, .int a)]) dX6_fittingTexts_47 rfl ((nI_succ _).symm) (by decide) rfl ?_
      refine r_goto (tgt := 5) dX6_fittingTexts_50 (by decide) ?_
      refine qG.pick [0, 1, 2, 3, 4] rfl ?_
      rw [show (c ||| if ow S i kd nr s y a = -1 then sh1 i else 0) = v46 from by subst e46; first | (rw [if_pos b34]; rfl) | (rw [if_neg b34]; done)] at h
      exact ih (i + 1) _ A2 _ (by omega) ((hc.rl (show i < T by omega) (hx i (by omega))).fr f2) ((hh.fr hs (Fr.s2 (by decide))).fr hs f2.t) (fun A3 f3 => h A3 ((((Fr.s2 (by decide)).tr f2.t).tr f3)))
set_option maxRecDepth 100000 in
set_option maxHeartbeats 400000 in
theorem cw_loop (hs : s < 4) {y : Nat} (hy : y ≤ 40) {a : Int32} : ∀ (k i : Nat) (c : Int32) (A : mA), i + k = 6 → CE E A S T r kd nr → SH A S s y → (∀ A', Fr [5, 24, 26] A A' → Ph (some (.int (bsF (fun v => ow S r kd nr s y (bwF S r kd nr a (nI v))) k i c))) A' L) → qG E mm_X6_fittingWords (d + 5) 5 [(4, .int (nI i)), (3, .int c), (0, .ref 0), (1, .ref (8 + s)), (2, .int a)] [] A L Ph := by
  intro k
  induction k with
  | zero =>
    intro i c A hi hc hh h
    have hE := hc.1
    have hlim : 6 ≤ 10 := by decide
    have hi : i = 6 := by omega
    subst hi
    refine r_iload dX6_fittingWords_5 rfl ?_
    refine r_bipush (v := 6) dX6_fittingWords_7 rfl ?_
    refine r_icmp_ge (tgt := 48) dX6_fittingWords_9 (by decide) (fun _ => ?_) (fun hqz => absurd (nI_le (Nat.le_refl _) (by decide)) hqz)
    refine r_iload_n dX6_fittingWords_48 rfl ?_
    refine r_ireturn dX6_fittingWords_49 rfl rfl ?_
    exact h A Fr.rf
  | succ k ih =>
    intro i c A hi hc hh h
    have hE := hc.1
    have hlim : 6 ≤ 10 := by decide
    rw [bsF] at h
    refine r_iload dX6_fittingWords_5 rfl ?_
    refine r_bipush (v := 6) dX6_fittingWords_7 rfl ?_
    refine r_icmp_ge (tgt := 48) dX6_fittingWords_9 (by decide) (fun hqz => absurd hqz (nI_ge (show i < 6 by omega) (by decide))) (fun _ => ?_)
    refine r_iload_n dX6_fittingWords_12 rfl ?_
    refine r_aload_n dX6_fittingWords_13 rfl ?_
    refine r_aload_n dX6_fittingWords_14 rfl ?_
    refine r_aload_n dX6_fittingWords_15 rfl ?_
    refine r_getR dX6_fittingWords_16 fl_X6_38 (ly_0 hE) rfl ?_
    refine r_iload_n dX6_fittingWords_19 rfl ?_
    refine r_iload dX6_fittingWords_20 rfl ?_
    refine r_callV2 dX6_fittingWords_22 lk_X6_149 (ly_5 hE) rfl (Nat.le_of_ble_eq_true rfl) (sp_X4_heated hc (fun A1 f1 => ?_))
    refine r_callV2 dX6_fittingWords_25 lk_X6_250 (ly_0 hE) rfl (Nat.le_of_ble_eq_true rfl) (sp_first hs hy (hc.fr f1) (hh.fr hs f1.t) (fun A2 f2 => ?_))
    refine r_iconst (v := (-1)) dX6_fittingWords_28 rfl ?_
    refine r_icmp_ne (tgt := 39) dX6_fittingWords_29 (by decide) (fun b29 => ?_) (fun b29 => ?_)
    · refine r_iconst (v := 0) dX6_fittingWords_39 rfl ?_
      refine r_ior dX6_fittingWords_40 ?_
      refine r_topi (fun v41 e41 => ?_)
      refine r_istore_n (loc' := [(3, .int v41), (4, .int (nI i)), (0, .ref 0), (1, .ref (8 + s)), (2, .int a)]) dX6_fittingWords_41 (by decide) rfl ?_
      refine r_iinc (v := (nI (i + 1))) (loc' := [(4, .int (nI (i + 1))), (3, .int v41), (0, .ref 0), (1, .ref (8 + s)), (2, .int a)]) dX6_fittingWords_42 rfl ((nI_succ _).symm) (by decide) rfl ?_
      refine r_goto (tgt := 5) dX6_fittingWords_45 (by decide) ?_
      refine qG.pick [0, 1, 2, 3, 4] rfl ?_
      rw [show (c ||| if ow S r kd nr s y (bwF S r kd nr a (nI i)) = -1 then sh1 i else 0) = v41 from by subst e41; first | (rw [if_pos b29]; rfl) | (rw [if_neg b29]; done)] at h
      exact ih (i + 1) _ A2 (by omega) ((hc.fr f1).fr f2) ((hh.fr hs f1.t).fr hs f2.t) (fun A3 f3 => h A3 (((f1.t.tr f2.t).tr f3)))
    · refine r_iconst (v := 1) dX6_fittingWords_32 rfl ?_
      refine r_iload dX6_fittingWords_33 rfl ?_
      refine r_ishl dX6_fittingWords_35 ?_
      refine r_goto (tgt := 40) dX6_fittingWords_36 (by decide) ?_
      refine r_ior dX6_fittingWords_40 ?_
      refine r_topi (fun v41 e41 => ?_)
      refine r_istore_n (loc' := [(3, .int v41), (4, .int (nI i)), (0, .ref 0), (1, .ref (8 + s)), (2, .int a)]) dX6_fittingWords_41 (by decide) rfl ?_
      refine r_iinc (v := (nI (i + 1))) (loc' := [(4, .int (nI (i + 1))), (3, .int v41), (0, .ref 0), (1, .ref (8 + s)), (2, .int a)]) dX6_fittingWords_42 rfl ((nI_succ _).symm) (by decide) rfl ?_
      refine r_goto (tgt := 5) dX6_fittingWords_45 (by decide) ?_
      refine qG.pick [0, 1, 2, 3, 4] rfl ?_
      rw [show (c ||| if ow S r kd nr s y (bwF S r kd nr a (nI i)) = -1 then sh1 i else 0) = v41 from by subst e41; first | (rw [if_pos b29]; rfl) | (rw [if_neg b29]; done)] at h
      exact ih (i + 1) _ A2 (by omega) ((hc.fr f1).fr f2) ((hh.fr hs f1.t).fr hs f2.t) (fun A3 f3 => h A3 (((f1.t.tr f2.t).tr f3)))
set_option maxRecDepth 100000 in
set_option maxHeartbeats 400000 in
theorem cp_loop (hs : s < 4) {y : Nat} (hy : y ≤ 40) {a : Int32} (hE : hC E) (hW : WfS S T n z) : ∀ (k i : Nat) (c : Int32) (A : mA), i + k = n → RC A S T n z → SH A S s y → (∀ A', Fr [5, 24, 26] A A' → Ph (some (.int (bsF (fun v => ow S (rF S) (kdP S v) (nrP S v) s y (anP S v)) k i c))) A' L) → qG E mm_X6_fittingPairs (d + 5) 4 [(3, .int (nI i)), (2, .int c), (0, .ref 0), (1, .ref (8 + s))] [] A L Ph := by
  intro k
  induction k with
  | zero =>
    intro i c A hi hc hh h
    have hE := hE
    have hlim : n ≤ 10 := (by have := hW.2.2.2.2.1.1; omega)
    have hi : i = n := by omega
    subst hi
    refine r_iload_n dX6_fittingPairs_4 rfl ?_
    refine r_aload_n dX6_fittingPairs_5 rfl ?_
    refine r_getR dX6_fittingPairs_6 fl_X6_10 (ly_0 hE) rfl ?_
    refine r_getI dX6_fittingPairs_9 fl_X6_93 (ly_1 hE) rfl ?_
    refine r_rw (y := nI i) (hc.1.2.2.1.trans hW.2.2.2.2.1.2.1) ?_
    refine r_icmp_ge (tgt := 60) dX6_fittingPairs_12 (by decide) (fun _ => ?_) (fun hqz => absurd (nI_le (Nat.le_refl _) (by omega)) hqz)
    refine r_iload_n dX6_fittingPairs_60 rfl ?_
    refine r_ireturn dX6_fittingPairs_61 rfl rfl ?_
    exact h A Fr.rf
  | succ k ih =>
    intro i c A hi hc hh h
    have hE := hE
    have hlim : n ≤ 10 := (by have := hW.2.2.2.2.1.1; omega)
    rw [bsF] at h
    refine r_iload_n dX6_fittingPairs_4 rfl ?_
    refine r_aload_n dX6_fittingPairs_5 rfl ?_
    refine r_getR dX6_fittingPairs_6 fl_X6_10 (ly_0 hE) rfl ?_
    refine r_getI dX6_fittingPairs_9 fl_X6_93 (ly_1 hE) rfl ?_
    refine r_rw (y := nI n) (hc.1.2.2.1.trans hW.2.2.2.2.1.2.1) ?_
    refine r_icmp_ge (tgt := 60) dX6_fittingPairs_12 (by decide) (fun hqz => absurd hqz (nI_ge (show i < n by omega) (by omega))) (fun _ => ?_)
    refine r_aload_n dX6_fittingPairs_15 rfl ?_
    refine r_getR dX6_fittingPairs_16 fl_X6_38 (ly_0 hE) rfl ?_
    refine r_aload_n dX6_fittingPairs_19 rfl ?_
    refine r_getR dX6_fittingPairs_20 fl_X6_10 (ly_0 hE) rfl ?_
    refine r_iload_n dX6_fittingPairs_23 rfl ?_
    refine r_callV2 dX6_fittingPairs_24 lk_X6_128 (ly_5 hE) rfl (Nat.le_of_ble_eq_true rfl) (co_of hE hW hc (show i < n by omega) (fun A1 f1 hc1 hR1 => ?_))
    refine r_iload_n dX6_fittingPairs_27 rfl ?_
    refine r_aload_n dX6_fittingPairs_28 rfl ?_
    refine r_aload_n dX6_fittingPairs_29 rfl ?_
    refine r_aload_n dX6_fittingPairs_30 rfl ?_
    refine r_getR dX6_fittingPairs_31 fl_X6_10 (ly_0 hE) rfl ?_
    refine r_iload_n dX6_fittingPairs_34 rfl ?_
    refine r_callV1 dX6_fittingPairs_35 lk_X6_132 (ly_1 hE) rfl (Nat.le_of_ble_eq_true rfl) (co_an hE hW hR1 (show i < n by omega) ?_)
    refine r_callV2 dX6_fittingPairs_38 lk_X6_250 (ly_0 hE) rfl (Nat.le_of_ble_eq_true rfl) (sp_first hs hy hc1 (hh.fr hs (f1.mo (by decide))) (fun A2 f2 => ?_))
    refine r_iconst (v := (-1)) dX6_fittingPairs_41 rfl ?_
    refine r_icmp_ne (tgt := 51) dX6_fittingPairs_42 (by decide) (fun b42 => ?_) (fun b42 => ?_)
    · refine r_iconst (v := 0) dX6_fittingPairs_51 rfl ?_
      refine r_ior dX6_fittingPairs_52 ?_
      refine r_topi (fun v53 e53 => ?_)
      refine r_istore_n (loc' := [(2, .int v53), (3, .int (nI i)), (0, .ref 0), (1, .ref (8 + s))]) dX6_fittingPairs_53 (by decide) rfl ?_
      refine r_iinc (v := (nI (i + 1))) (loc' := [(3, .int (nI (i + 1))), (2, .int v53), (0, .ref 0), (1, .ref (8 + s))]) dX6_fittingPairs_54 rfl ((nI_succ _).symm) (by decide) rfl ?_
      refine r_goto (tgt := 4) dX6_fittingPairs_57 (by decide) ?_
      refine qG.pick [0, 1, 2, 3] rfl ?_
      rw [show (c ||| if ow S (rF S) (kdP S i) (nrP S i) s y (anP S i) = -1 then sh1 i else 0) = v53 from by subst e53; first | (rw [if_pos b42]; rfl) | (rw [if_neg b42]; done)] at h
      exact ih (i + 1) _ A2 (by omega) (hR1.fr f2.c) ((hh.fr hs (f1.mo (by decide))).fr hs f2.t) (fun A3 f3 => h A3 (((Fr.tr (f1.mo (by decide)) f2.t).tr f3)))
    · refine r_iconst (v := 1) dX6_fittingPairs_45 rfl ?_
      refine r_iload_n dX6_fittingPairs_46 rfl ?_
      refine r_ishl dX6_fittingPairs_47 ?_
      refine r_goto (tgt := 52) dX6_fittingPairs_48 (by decide) ?_
      refine r_ior dX6_fittingPairs_52 ?_
      refine r_topi (fun v53 e53 => ?_)
      refine r_istore_n (loc' := [(2, .int v53), (3, .int (nI i)), (0, .ref 0), (1, .ref (8 + s))]) dX6_fittingPairs_53 (by decide) rfl ?_
      refine r_iinc (v := (nI (i + 1))) (loc' := [(3, .int (nI (i + 1))), (2, .int v53), (0, .ref 0), (1, .ref (8 + s))]) dX6_fittingPairs_54 rfl ((nI_succ _).symm) (by decide) rfl ?_
      refine r_goto (tgt := 4) dX6_fittingPairs_57 (by decide) ?_
      refine qG.pick [0, 1, 2, 3] rfl ?_
      rw [show (c ||| if ow S (rF S) (kdP S i) (nrP S i) s y (anP S i) = -1 then sh1 i else 0) = v53 from by subst e53; first | (rw [if_pos b42]; rfl) | (rw [if_neg b42]; done)] at h
      exact ih (i + 1) _ A2 (by omega) (hR1.fr f2.c) ((hh.fr hs (f1.mo (by decide))).fr hs f2.t) (fun A3 f3 => h A3 (((Fr.tr (f1.mo (by decide)) f2.t).tr f3)))
set_option maxRecDepth 100000 in
set_option maxHeartbeats 400000 in
theorem ca_loop (hs : s < 4) {y : Nat} (hy : y ≤ 40) {f : Nat → Int32} {N : Nat} (hN : N = 100) (hf : ∀ v, ow S r kd nr s y (nI v) = f v) : ∀ (k i : Nat) (A : mA), i + k = N → CE E A S T r kd nr → SH A S s y → (∀ A', Fr [5, 24, 26] A A' → Ph (some (.int (nI (cA f N)))) A' L) → qG E mm_X6_fittingAngers (d + 5) 4 [(3, .int (nI i)), (2, .int (nI (cA f i))), (0, .ref 0), (1, .ref (8 + s))] [] A L Ph := by
  intro k
  induction k with
  | zero =>
    intro i A hi hc hh h
    have hE := hc.1
    have hi : i = N := by omega
    rw [hi]
    refine r_iload_n dX6_fittingAngers_4 rfl ?_
    refine r_bipush (v := 100) dX6_fittingAngers_5 rfl ?_
    refine r_rw (y := nI N) (by rw [hN]; rfl) ?_
    refine r_icmp_ge (tgt := 34) dX6_fittingAngers_7 (by decide) (fun _ => ?_) (fun hqz => absurd (nI_le (Nat.le_refl _) (by omega)) hqz)
    refine r_iload_n dX6_fittingAngers_34 rfl ?_
    refine r_ireturn dX6_fittingAngers_35 rfl rfl ?_
    exact h A Fr.rf
  | succ k ih =>
    intro i A hi hc hh h
    have hE := hc.1
    refine r_iload_n dX6_fittingAngers_4 rfl ?_
    refine r_bipush (v := 100) dX6_fittingAngers_5 rfl ?_
    refine r_rw (y := nI N) (by rw [hN]; rfl) ?_
    refine r_icmp_ge (tgt := 34) dX6_fittingAngers_7 (by decide) (fun hqz => absurd hqz (nI_ge (show i < N by omega) (by omega))) (fun _ => ?_)
    refine r_iload_n dX6_fittingAngers_10 rfl ?_
    refine r_aload_n dX6_fittingAngers_11 rfl ?_
    refine r_aload_n dX6_fittingAngers_12 rfl ?_
    refine r_iload_n dX6_fittingAngers_13 rfl ?_
    refine r_callV2 dX6_fittingAngers_14 lk_X6_250 (ly_0 hE) rfl (Nat.le_of_ble_eq_true rfl) (sp_first hs hy hc hh (fun A2 f2 => ?_))
    refine r_rw (hf i) ?_
    refine r_iconst (v := (-1)) dX6_fittingAngers_17 rfl ?_
    refine r_icmp_ne (tgt := 25) dX6_fittingAngers_18 (by decide) (fun b18 => ?_) (fun b18 => ?_)
    · refine r_iconst (v := 0) dX6_fittingAngers_25 rfl ?_
      refine r_iadd dX6_fittingAngers_26 ?_
      refine r_rw (y := nI (cA f (i + 1))) (by first | (rw [cA, if_pos b18]; exact nI_add _ 1) | (rw [cA, if_neg b18]; exact nI_add _ 0)) ?_
      refine r_istore_n (loc' := [(2, .int (nI (cA f (i + 1)))), (3, .int (nI i)), (0, .ref 0), (1, .ref (8 + s))]) dX6_fittingAngers_27 (by decide) rfl ?_
      refine r_iinc (v := (nI (i + 1))) (loc' := [(3, .int (nI (i + 1))), (2, .int (nI (cA f (i + 1)))), (0, .ref 0), (1, .ref (8 + s))]) dX6_fittingAngers_28 rfl ((nI_succ _).symm) (by decide) rfl ?_
      refine r_goto (tgt := 4) dX6_fittingAngers_31 (by decide) ?_
      refine qG.pick [0, 1, 2, 3] rfl ?_
      exact ih (i + 1) A2 (by omega) (hc.fr f2) (hh.fr hs f2.t) (fun A3 f3 => h A3 (f2.t.tr f3))
    · refine r_iconst (v := 1) dX6_fittingAngers_21 rfl ?_
      refine r_goto (tgt := 26) dX6_fittingAngers_22 (by decide) ?_
      refine r_iadd dX6_fittingAngers_26 ?_
      refine r_rw (y := nI (cA f (i + 1))) (by first | (rw [cA, if_pos b18]; exact nI_add _ 1) | (rw [cA, if_neg b18]; exact nI_add _ 0)) ?_
      refine r_istore_n (loc' := [(2, .int (nI (cA f (i + 1)))), (3, .int (nI i)), (0, .ref 0), (1, .ref (8 + s))]) dX6_fittingAngers_27 (by decide) rfl ?_
      refine r_iinc (v := (nI (i + 1))) (loc' := [(3, .int (nI (i + 1))), (2, .int (nI (cA f (i + 1)))), (0, .ref 0), (1, .ref (8 + s))]) dX6_fittingAngers_28 rfl ((nI_succ _).symm) (by decide) rfl ?_
      refine r_goto (tgt := 4) dX6_fittingAngers_31 (by decide) ?_
      refine qG.pick [0, 1, 2, 3] rfl ?_
      exact ih (i + 1) A2 (by omega) (hc.fr f2) (hh.fr hs f2.t) (fun A3 f3 => h A3 (f2.t.tr f3))
set_option maxRecDepth 100000 in
set_option maxHeartbeats 400000 in
theorem cl_loop (hs : s < 4) {y : Nat} (hy : y ≤ 40) {f : Nat → Int32} {N : Nat} (hN : N = 100) (hf : ∀ v, ow S r kd nr s y (nI v) = f v) : ∀ (k i : Nat) (A : mA), i + k = N → CE E A S T r kd nr → SH A S s y → (∀ A', Fr [5, 24, 26] A A' → Ph (some (.int (leF f k i))) A' L) → qG E mm_X6_leastFittingAnger (d + 5) 2 [(2, .int (nI i)), (0, .ref 0), (1, .ref (8 + s))] [] A L Ph := by
  intro k
  induction k with
  | zero =>
    intro i A hi hc hh h
    have hE := hc.1
    have hi : i = N := by omega
    rw [hi] at h
    rw [hi]
    refine r_iload_n dX6_leastFittingAnger_2 rfl ?_
    refine r_bipush (v := 100) dX6_leastFittingAnger_3 rfl ?_
    refine r_rw (y := nI N) (by rw [hN]; rfl) ?_
    refine r_icmp_ge (tgt := 26) dX6_leastFittingAnger_5 (by decide) (fun _ => ?_) (fun hqz => absurd (nI_le (Nat.le_refl _) (by omega)) hqz)
    refine r_iconst (v := (-1)) dX6_leastFittingAnger_26 rfl ?_
    refine r_ireturn dX6_leastFittingAnger_27 rfl rfl ?_
    exact h A Fr.rf
  | succ k ih =>
    intro i A hi hc hh h
    have hE := hc.1
    rw [leF] at h
    refine r_iload_n dX6_leastFittingAnger_2 rfl ?_
    refine r_bipush (v := 100) dX6_leastFittingAnger_3 rfl ?_
    refine r_rw (y := nI N) (by rw [hN]; rfl) ?_
    refine r_icmp_ge (tgt := 26) dX6_leastFittingAnger_5 (by decide) (fun hqz => absurd hqz (nI_ge (show i < N by omega) (by omega))) (fun _ => ?_)
    refine r_aload_n dX6_leastFittingAnger_8 rfl ?_
    refine r_aload_n dX6_leastFittingAnger_9 rfl ?_
    refine r_iload_n dX6_leastFittingAnger_10 rfl ?_
    refine r_callV2 dX6_leastFittingAnger_11 lk_X6_250 (ly_0 hE) rfl (Nat.le_of_ble_eq_true rfl) (sp_first hs hy hc hh (fun A2 f2 => ?_))
    refine r_rw (hf i) ?_
    refine r_iconst (v := (-1)) dX6_leastFittingAnger_14 rfl ?_
    refine r_icmp_ne (tgt := 20) dX6_leastFittingAnger_15 (by decide) (fun b15 => ?_) (fun b15 => ?_)
    · refine r_iinc (v := (nI (i + 1))) (loc' := [(2, .int (nI (i + 1))), (0, .ref 0), (1, .ref (8 + s))]) dX6_leastFittingAnger_20 rfl ((nI_succ _).symm) (by decide) rfl ?_
      refine r_goto (tgt := 2) dX6_leastFittingAnger_23 (by decide) ?_
      refine qG.pick [0, 1, 2] rfl ?_
      rw [if_neg b15] at h
      exact ih (i + 1) A2 (by omega) (hc.fr f2) (hh.fr hs f2.t) (fun A3 f3 => h A3 (f2.t.tr f3))
    · refine r_iload_n dX6_leastFittingAnger_18 rfl ?_
      refine r_ireturn dX6_leastFittingAnger_19 rfl rfl ?_
      rw [if_pos b15] at h
      exact h A2 f2.t
set_option maxRecDepth 100000 in
set_option maxHeartbeats 400000 in
theorem mfa_loop (hs : s < 4) {y : Nat} {mv : Int32} (hy : y ≤ 40) (h54 : S 54 s = nI y) {f : Nat → Int32} {N : Nat} (hN : N = 100) (hf : ∀ v, ow S r kd nr s y (nI v) = f v) : ∀ (i : Nat) (A : mA), i ≤ N → ME E A S T r kd nr → (∀ A', Fr [46] A A' → Ph (some (.int (if mv = 0 then leF f N 0 else nI (cA f N)))) A' L) → qG E mm_X7_fitAngers (d + 7) 9 [(5, .int (nI i - 1)), (4, .int (leF f (N - i) i)), (3, .int (nI (cA f N - cA f i))), (0, .ref 38), (1, .int (nI s)), (2, .int mv)] [] A L Ph := by
  intro i
  induction i with
  | zero =>
    intro A hi hm h
    have hE := hm.1
    rw [show nI 0 - 1 = -1 from rfl, Nat.sub_zero, show cA f 0 = 0 from rfl, Nat.sub_zero]
    generalize leF f N 0 = lF at *
    generalize nI (cA f N) = cF at *
    refine r_iload dX7_fitAngers_9 rfl ?_
    refine r_if_lt (tgt := 56) dX7_fitAngers_11 (by decide) (fun _ => ?_) (fun hqz => absurd (by decide) hqz)
    refine r_iload_n dX7_fitAngers_56 rfl ?_
    refine r_if_eq (tgt := 64) dX7_fitAngers_57 (by decide) (fun b57 => ?_) (fun b57 => ?_)
    · refine r_iload dX7_fitAngers_64 rfl ?_
      refine r_ireturn dX7_fitAngers_66 rfl rfl ?_
      first | (rw [if_pos b57] at h; exact h A Fr.rf) | (rw [if_neg b57] at h; exact h A Fr.rf)
    · refine r_iload_n dX7_fitAngers_60 rfl ?_
      refine r_goto (tgt := 66) dX7_fitAngers_61 (by decide) ?_
      refine r_ireturn dX7_fitAngers_66 rfl rfl ?_
      first | (rw [if_pos b57] at h; exact h A Fr.rf) | (rw [if_neg b57] at h; exact h A Fr.rf)
  | succ i ih =>
    intro A hi hm h
    have hE := hm.1
    have e1 : leF f (N - i) i = if f i = -1 then nI i else leF f (N - (i + 1)) (i + 1) := by
      rw [show N - i = (N - (i + 1)) + 1 by omega, leF]
    have e2 := cA_mo f (j := i + 1) (N - (i + 1))
    rw [show i + 1 + (N - (i + 1)) = N by omega] at e2
    have e3 : cA f (i + 1) = cA f i + if f i = -1 then 1 else 0 := rfl
    have hq' := hf i
    have J : ∀ A', Fr [46] A A' → qG E mm_X7_fitAngers (d + 7) 9 [(5, .int (nI i - 1)), (4, .int (leF f (N - i) i)), (3, .int (nI (cA f N - cA f i))), (0, .ref 38), (1, .int (nI s)), (2, .int mv)] [] A' L Ph := fun A1 f1 => ih A1 (by omega) (hm.f46 f1) (fun A3 f3 => h A3 (f1.tr f3))
    rw [show nI (i + 1) - 1 = nI i from (pk_sub (a := i + 1) (b := 1) (by omega)).trans rfl]
    rw [e1] at J
    generalize leF f (N - (i + 1)) (i + 1) = lF at *
    generalize cA f (i + 1) = ci1 at *
    generalize cA f N = cc at *
    generalize cA f i = ci at *
    refine r_iload dX7_fitAngers_9 rfl ?_
    refine r_if_lt (tgt := 56) dX7_fitAngers_11 (by decide) (fun hqz => absurd hqz (nI_pos (by omega))) (fun _ => ?_)
    refine r_aload_n dX7_fitAngers_14 rfl ?_
    refine r_iload_n dX7_fitAngers_15 rfl ?_
    refine r_iload dX7_fitAngers_16 rfl ?_
    refine r_callV2 dX7_fitAngers_18 lk_X7_263 (ly_38 hE) rfl (Nat.le_of_ble_eq_true rfl) (sp_fits hs hy h54 hm (fun A1 f1 hq => ?_) (fun A1 f1 hq => ?_))
    · rw [hq'] at hq
      rw [if_pos hq] at J e3
      have e4 : nI (cc - ci1) + 1 = nI (cc - ci) := (nI_add _ 1).trans (congrArg nI (by omega))
      refine r_istore (loc' := [(6, .int 1), (5, .int (nI i)), (4, .int lF), (3, .int (nI (cc - ci1))), (0, .ref 38), (1, .int (nI s)), (2, .int mv)]) dX7_fitAngers_21 (by decide) rfl ?_
      refine r_iload_n dX7_fitAngers_23 rfl ?_
      refine r_iload dX7_fitAngers_24 rfl ?_
      refine r_if_eq (tgt := 33) dX7_fitAngers_26 (by decide) (fun hqz => absurd hqz (by decide)) (fun _ => ?_)
      refine r_iconst (v := 1) dX7_fitAngers_29 rfl ?_
      refine r_goto (tgt := 34) dX7_fitAngers_30 (by decide) ?_
      refine r_iadd dX7_fitAngers_34 ?_
      refine r_rw (y := nI (cc - ci)) e4 ?_
      refine r_istore_n (loc' := [(3, .int (nI (cc - ci))), (6, .int 1), (5, .int (nI i)), (4, .int lF), (0, .ref 38), (1, .int (nI s)), (2, .int mv)]) dX7_fitAngers_35 (by decide) rfl ?_
      refine r_iload dX7_fitAngers_36 rfl ?_
      refine r_if_eq (tgt := 46) dX7_fitAngers_38 (by decide) (fun hqz => absurd hqz (by decide)) (fun _ => ?_)
      refine r_iload dX7_fitAngers_41 rfl ?_
      refine r_goto (tgt := 48) dX7_fitAngers_43 (by decide) ?_
      refine r_istore (loc' := [(4, .int (nI i)), (3, .int (nI (cc - ci))), (6, .int 1), (5, .int (nI i)), (0, .ref 38), (1, .int (nI s)), (2, .int mv)]) dX7_fitAngers_48 (by decide) rfl ?_
      refine r_iinc (v := (nI i - 1)) (loc' := [(5, .int (nI i - 1)), (4, .int (nI i)), (3, .int (nI (cc - ci))), (6, .int 1), (0, .ref 38), (1, .int (nI s)), (2, .int mv)]) dX7_fitAngers_50 rfl (dec1 i) (by decide) rfl ?_
      refine r_goto (tgt := 9) dX7_fitAngers_53 (by decide) ?_
      refine qG.pick [0, 1, 2, 4, 5, 6] rfl ?_
      exact J A1 f1
    · rw [hq'] at hq
      rw [if_neg hq] at J e3
      have e4 : nI (cc - ci1) + 0 = nI (cc - ci) := (nI_add _ 0).trans (congrArg nI (by omega))
      refine r_istore (loc' := [(6, .int 0), (5, .int (nI i)), (4, .int lF), (3, .int (nI (cc - ci1))), (0, .ref 38), (1, .int (nI s)), (2, .int mv)]) dX7_fitAngers_21 (by decide) rfl ?_
      refine r_iload_n dX7_fitAngers_23 rfl ?_
      refine r_iload dX7_fitAngers_24 rfl ?_
      refine r_if_eq (tgt := 33) dX7_fitAngers_26 (by decide) (fun _ => ?_) (fun hqz => absurd (by decide) hqz)
      refine r_iconst (v := 0) dX7_fitAngers_33 rfl ?_
      refine r_iadd dX7_fitAngers_34 ?_
      refine r_rw (y := nI (cc - ci)) e4 ?_
      refine r_istore_n (loc' := [(3, .int (nI (cc - ci))), (6, .int 0), (5, .int (nI i)), (4, .int lF), (0, .ref 38), (1, .int (nI s)), (2, .int mv)]) dX7_fitAngers_35 (by decide) rfl ?_
      refine r_iload dX7_fitAngers_36 rfl ?_
      refine r_if_eq (tgt := 46) dX7_fitAngers_38 (by decide) (fun _ => ?_) (fun hqz => absurd (by decide) hqz)
      refine r_iload dX7_fitAngers_46 rfl ?_
      refine r_istore (loc' := [(4, .int lF), (3, .int (nI (cc - ci))), (6, .int 0), (5, .int (nI i)), (0, .ref 38), (1, .int (nI s)), (2, .int mv)]) dX7_fitAngers_48 (by decide) rfl ?_
      refine r_iinc (v := (nI i - 1)) (loc' := [(5, .int (nI i - 1)), (4, .int lF), (3, .int (nI (cc - ci))), (6, .int 0), (0, .ref 38), (1, .int (nI s)), (2, .int mv)]) dX7_fitAngers_50 rfl (dec1 i) (by decide) rfl ?_
      refine r_goto (tgt := 9) dX7_fitAngers_53 (by decide) ?_
      refine qG.pick [0, 1, 2, 4, 5, 6] rfl ?_
      exact J A1 f1
set_option maxRecDepth 100000 in
set_option maxHeartbeats 400000 in
theorem sp_fitA (hs : s < 4) {y : Nat} {mv : Int32} (hy : y ≤ 40) (h54 : S 54 s = nI y) {f : Nat → Int32} {N : Nat} (hN : N = 100) (hf : ∀ v, ow S r kd nr s y (nI v) = f v) (hm : ME E A S T r kd nr) (h : ∀ A', Fr [46] A A' → Ph (some (.int (if mv = 0 then leF f N 0 else nI (cA f N)))) A' L) : qC E mm_X7_fitAngers (d + 7) [.ref 38, .int (nI s), .int mv] A L Ph := by
  have hE := hm.1
  have J := mfa_loop (d := d) hs hy h54 hN hf N A (Nat.le_refl _) hm h
  rw [Nat.sub_self, Nat.sub_self, show nI N - 1 = 99 by rw [hN]; rfl] at J
  refine qC.enter (by decide) (Nat.le_of_ble_eq_true rfl) ?_
  refine r_iconst (v := 0) dX7_fitAngers_0 rfl ?_
  refine r_istore_n (loc' := [(3, .int 0), (0, .ref 38), (1, .int (nI s)), (2, .int mv)]) dX7_fitAngers_1 (by decide) rfl ?_
  refine r_iconst (v := (-1)) dX7_fitAngers_2 rfl ?_
  refine r_istore (loc' := [(4, .int (-1)), (3, .int 0), (0, .ref 38), (1, .int (nI s)), (2, .int mv)]) dX7_fitAngers_3 (by decide) rfl ?_
  refine r_bipush (v := 99) dX7_fitAngers_5 rfl ?_
  refine r_istore (loc' := [(5, .int 99), (4, .int (-1)), (3, .int 0), (0, .ref 38), (1, .int (nI s)), (2, .int mv)]) dX7_fitAngers_7 (by decide) rfl ?_
  refine qG.pick [0, 1, 2, 3, 4, 5] rfl ?_
  exact J
end OPS14
