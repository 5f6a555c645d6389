/-! stays, drawn, chance -/
def wdz (x : Int32) : Int32 := (x.toUInt32 >>> ((9 : Int32).toUInt32 &&& Int32.toUInt32 31)).toInt32 - (x.toUInt32 >>> ((9 : Int32).toUInt32 &&& Int32.toUInt32 31)).toInt32 / 6 * 6
def drF (far : Int32 → Int32) (bw : Int32 → Int32 → Int32) : Nat → Int32 → Int32 → Int32
  | 0, _, a => far a
  | k + 1, x, a => drF far bw k (x * 1103515245 + 12345) (bw a (wdz (x * 1103515245 + 12345)))
def stF (far bm : Int32 → Int32) (mile : Int32) : Nat → Int32 → Nat → Nat
  | 0, _, m => m
  | k + 1, a, m => if far a ≤ mile then m else stF far bm mile k (bm a) (m + 1)
theorem lgc0 {l : Nat} (h : l < 2 ^ 63) : lg_cmp (lN l) 0 = 0 ↔ l = 0 := by
  unfold lg_cmp
  have e : lN l = 0 ↔ l = 0 := pk_lEQ h (by decide : 0 < 2 ^ 63)
  have e2 : (0 : Int64) < lN l ↔ 0 < l := pk_lLT (by decide : 0 < 2 ^ 63) h
  by_cases h0 : l = 0
  · subst h0; exact ⟨fun _ => rfl, fun _ => rfl⟩
  · rw [if_pos (e2.mpr (by omega))]
    exact ⟨fun z => absurd z (by decide), fun z => absurd z h0⟩
theorem lgc1 {l : Nat} (h : l < 2 ^ 63) (h1 : 1 ≤ l) : 0 ≤ lg_cmp (lN l) 1 := by
  unfold lg_cmp
  have e : lN l = 1 ↔ l = 1 := pk_lEQ h (by decide : 1 < 2 ^ 63)
  have e2 : (1 : Int64) < lN l ↔ 1 < l := pk_lLT (by decide : 1 < 2 ^ 63) h
  by_cases h0 : l = 1
  · subst h0; decide
  · rw [if_pos (e2.mpr (by omega))]; decide
section OPS5
variable {E : mE} {d : Nat} {A S : mA} {L : mJ} {Ph : mP} {T n z p r : Nat} {kd nr : Int32}
set_option maxRecDepth 100000 in
set_option maxHeartbeats 4000000 in
theorem gcd_loop {x y : Int64} : ∀ (l g : Nat), l < 2 ^ 63 → g < 2 ^ 63 → (Ph (some (.long (lN (Nat.gcd g l)))) A L) → qG E mm_X7_gcd d 6 [(6, .long (lN l)), (4, .long (lN g)), (0, .long x), (2, .long y)] [] A L Ph := by
  intro l
  induction l using Nat.strongRecOn with
  | _ l ih =>
    intro g hl hg h
    by_cases h0 : l = 0
    · subst h0
      rw [Nat.gcd_zero_right] at h
      refine r_lload dX7_gcd_6 rfl ?_
      refine r_lconst (v := 0) dX7_gcd_8 rfl ?_
      refine r_lcmp dX7_gcd_9 ?_
      refine r_if_eq (tgt := 31) dX7_gcd_10 (by decide) (fun _ => ?_) (fun hqz => absurd ((lgc0 (by decide)).mpr rfl) hqz)
      refine r_lload dX7_gcd_31 rfl ?_
      refine r_lreturn dX7_gcd_33 rfl ?_
      exact h
    · have hm : g % l < l := Nat.mod_lt _ (by omega)
      refine r_lload dX7_gcd_6 rfl ?_
      refine r_lconst (v := 0) dX7_gcd_8 rfl ?_
      refine r_lcmp dX7_gcd_9 ?_
      refine r_if_eq (tgt := 31) dX7_gcd_10 (by decide) (fun hqz => absurd hqz (fun q => h0 ((lgc0 hl).mp q))) (fun _ => ?_)
      refine r_lload dX7_gcd_13 rfl ?_
      refine r_lload dX7_gcd_15 rfl ?_
      refine r_lrem dX7_gcd_17 (fun q => h0 ((pk_lEQ hl (by decide : 0 < 2 ^ 63)).mp q)) ?_
      refine r_rwl (y := lN (g % l)) (pk_lRem hg (by omega) hl) ?_
      refine r_lstore (loc' := [(8, .long (lN (g % l))), (6, .long (lN l)), (4, .long (lN g)), (0, .long x), (2, .long y)]) dX7_gcd_18 (by decide) rfl ?_
      refine r_lload dX7_gcd_20 rfl ?_
      refine r_lstore (loc' := [(4, .long (lN l)), (8, .long (lN (g % l))), (6, .long (lN l)), (0, .long x), (2, .long y)]) dX7_gcd_22 (by decide) rfl ?_
      refine r_lload dX7_gcd_24 rfl ?_
      refine r_lstore (loc' := [(6, .long (lN (g % l))), (4, .long (lN l)), (8, .long (lN (g % l))), (0, .long x), (2, .long y)]) dX7_gcd_26 (by decide) rfl ?_
      refine r_goto (tgt := 6) dX7_gcd_28 (by decide) ?_
      refine qG.pick [0, 1, 3, 4] rfl ?_
      exact ih (g % l) hm l (by omega) hl (by rw [Nat.gcd_comm l, ← Nat.gcd_rec, Nat.gcd_comm]; exact h)
set_option maxRecDepth 100000 in
set_option maxHeartbeats 4000000 in
theorem sp_X7_gcd {g l : Nat} (hg : g < 2 ^ 63) (hl : l < 2 ^ 63) (h : Ph (some (.long (lN (Nat.gcd g l)))) A L) : qC E mm_X7_gcd d [.long (lN g), .long (lN l)] A L Ph := by
  refine qC.enter (by decide) (Nat.le_of_ble_eq_true rfl) ?_
  refine r_lload_n dX7_gcd_0 rfl ?_
  refine r_lstore (loc' := [(4, .long (lN g)), (0, .long (lN g)), (2, .long (lN l))]) dX7_gcd_1 (by decide) rfl ?_
  refine r_lload_n dX7_gcd_3 rfl ?_
  refine r_lstore (loc' := [(6, .long (lN l)), (4, .long (lN g)), (0, .long (lN g)), (2, .long (lN l))]) dX7_gcd_4 (by decide) rfl ?_
  exact gcd_loop l g hl hg h
theorem mod_half {l r : Nat} (h0 : 0 < r) (h : r < l) : l % r ≤ l / 2 := by
  by_cases q : r ≤ l / 2
  · have := Nat.mod_lt l h0; omega
  · rw [Nat.mod_eq_sub_mod (by omega), Nat.mod_eq_of_lt (by omega)]; omega
set_option maxRecDepth 100000 in
set_option maxHeartbeats 4000000 in
theorem cd_step {x y : Int64} {i l g : Nat} (hi : i < 200) (hl : l < 2 ^ 63) (hg : g < 2 ^ 63) (h0 : l ≠ 0) (k : qG E mm_X6_commonDivisor d 9 [(8, .int (nI (i + 1))), (6, .long (lN (g % l))), (4, .long (lN l)), (0, .long x), (2, .long y)] [] A L Ph) : qG E mm_X6_commonDivisor d 9 [(8, .int (nI i)), (6, .long (lN l)), (4, .long (lN g)), (0, .long x), (2, .long y)] [] A L Ph := by
  refine r_iload dX6_commonDivisor_9 rfl ?_
  refine r_sipush (v := 200) dX6_commonDivisor_11 rfl ?_
  refine r_icmp_ge (tgt := 45) dX6_commonDivisor_14 (by decide) (fun hqz => absurd hqz (nI_ge (show i < 200 from hi) (by decide))) (fun _ => ?_)
  refine r_lload dX6_commonDivisor_17 rfl ?_
  refine r_lconst (v := 0) dX6_commonDivisor_19 rfl ?_
  refine r_lcmp dX6_commonDivisor_20 ?_
  refine r_if_eq (tgt := 45) dX6_commonDivisor_21 (by decide) (fun hqz => absurd hqz (fun q => h0 ((lgc0 hl).mp q))) (fun _ => ?_)
  refine r_lload dX6_commonDivisor_24 rfl ?_
  refine r_lload dX6_commonDivisor_26 rfl ?_
  refine r_lrem dX6_commonDivisor_28 (fun q => h0 ((pk_lEQ hl (by decide : 0 < 2 ^ 63)).mp q)) ?_
  refine r_rwl (y := lN (g % l)) (pk_lRem hg (by omega) hl) ?_
  refine r_lstore (loc' := [(9, .long (lN (g % l))), (8, .int (nI i)), (6, .long (lN l)), (4, .long (lN g)), (0, .long x), (2, .long y)]) dX6_commonDivisor_29 (by decide) rfl ?_
  refine r_lload dX6_commonDivisor_31 rfl ?_
  refine r_lstore (loc' := [(4, .long (lN l)), (9, .long (lN (g % l))), (8, .int (nI i)), (6, .long (lN l)), (0, .long x), (2, .long y)]) dX6_commonDivisor_33 (by decide) rfl ?_
  refine r_lload dX6_commonDivisor_35 rfl ?_
  refine r_lstore (loc' := [(6, .long (lN (g % l))), (4, .long (lN l)), (9, .long (lN (g % l))), (8, .int (nI i)), (0, .long x), (2, .long y)]) dX6_commonDivisor_37 (by decide) rfl ?_
  refine r_iinc (v := (nI (i + 1))) (loc' := [(8, .int (nI (i + 1))), (6, .long (lN (g % l))), (4, .long (lN l)), (9, .long (lN (g % l))), (0, .long x), (2, .long y)]) dX6_commonDivisor_39 rfl ((nI_succ _).symm) (by decide) rfl ?_
  refine r_goto (tgt := 9) dX6_commonDivisor_42 (by decide) ?_
  refine qG.pick [0, 1, 2, 4, 5] rfl ?_
  exact k
set_option maxRecDepth 100000 in
set_option maxHeartbeats 4000000 in
theorem cd_end {x y : Int64} {i g : Nat} (hi : i < 200) (h : Ph (some (.long (lN g))) A L) : qG E mm_X6_commonDivisor d 9 [(8, .int (nI i)), (6, .long (lN 0)), (4, .long (lN g)), (0, .long x), (2, .long y)] [] A L Ph := by
  refine r_iload dX6_commonDivisor_9 rfl ?_
  refine r_sipush (v := 200) dX6_commonDivisor_11 rfl ?_
  refine r_icmp_ge (tgt := 45) dX6_commonDivisor_14 (by decide) (fun hqz => absurd hqz (nI_ge (show i < 200 from hi) (by decide))) (fun _ => ?_)
  refine r_lload dX6_commonDivisor_17 rfl ?_
  refine r_lconst (v := 0) dX6_commonDivisor_19 rfl ?_
  refine r_lcmp dX6_commonDivisor_20 ?_
  refine r_if_eq (tgt := 45) dX6_commonDivisor_21 (by decide) (fun _ => ?_) (fun hqz => absurd ((lgc0 (by decide)).mpr rfl) hqz)
  refine r_lload dX6_commonDivisor_45 rfl ?_
  refine r_lreturn dX6_commonDivisor_47 rfl ?_
  exact h
theorem cd_loop {x y : Int64} : ∀ (k i l g : Nat), i + 2 * k + 2 ≤ 200 → l < 2 ^ k → k ≤ 63 → g < 2 ^ 63 → (Ph (some (.long (lN (Nat.gcd g l)))) A L) → qG E mm_X6_commonDivisor d 9 [(8, .int (nI i)), (6, .long (lN l)), (4, .long (lN g)), (0, .long x), (2, .long y)] [] A L Ph := by
  intro k
  induction k with
  | zero =>
    intro i l g hi hl hk hg h
    have : l = 0 := by simpa using hl
    subst this
    rw [Nat.gcd_zero_right] at h
    exact cd_end (by omega) h
  | succ k ih =>
    intro i l g hi hl hk hg h
    have hp : 2 ^ (k + 1) ≤ 2 ^ 63 := Nat.pow_le_pow_right (by decide) hk
    have hp2 : 2 ^ (k + 1) = 2 * 2 ^ k := by rw [Nat.pow_succ, Nat.mul_comm]
    by_cases h0 : l = 0
    · subst h0
      rw [Nat.gcd_zero_right] at h
      exact cd_end (by omega) h
    · have e : Nat.gcd g l = Nat.gcd l (g % l) := by rw [Nat.gcd_comm l, ← Nat.gcd_rec, Nat.gcd_comm]
      have hm : g % l < l := Nat.mod_lt _ (by omega)
      refine cd_step (by omega) (by omega) hg h0 ?_
      by_cases h1 : g % l = 0
      · rw [h1]
        rw [e, h1, Nat.gcd_zero_right] at h
        exact cd_end (by omega) h
      · refine cd_step (by omega) (by omega) (by omega) h1 ?_
        have e2 : Nat.gcd l (g % l) = Nat.gcd (g % l) (l % (g % l)) := by rw [Nat.gcd_comm (g % l), ← Nat.gcd_rec, Nat.gcd_comm]
        refine ih (i + 2) _ _ (by omega) ?_ (by omega) (by omega) (by rw [← e2, ← e]; exact h)
        have := mod_half (l := l) (r := g % l) (by omega) hm
        omega
set_option maxRecDepth 100000 in
set_option maxHeartbeats 4000000 in
theorem sp_X6_commonDivisor {g l : Nat} (hg : g < 2 ^ 63) (hl : l < 2 ^ 63) (h : Ph (some (.long (lN (Nat.gcd g l)))) A L) : qC E mm_X6_commonDivisor d [.long (lN g), .long (lN l)] A L Ph := by
  refine qC.enter (by decide) (Nat.le_of_ble_eq_true rfl) ?_
  refine r_lload_n dX6_commonDivisor_0 rfl ?_
  refine r_lstore (loc' := [(4, .long (lN g)), (0, .long (lN g)), (2, .long (lN l))]) dX6_commonDivisor_1 (by decide) rfl ?_
  refine r_lload_n dX6_commonDivisor_3 rfl ?_
  refine r_lstore (loc' := [(6, .long (lN l)), (4, .long (lN g)), (0, .long (lN g)), (2, .long (lN l))]) dX6_commonDivisor_4 (by decide) rfl ?_
  refine r_iconst (v := 0) dX6_commonDivisor_6 rfl ?_
  refine r_istore (loc' := [(8, .int 0), (6, .long (lN l)), (4, .long (lN g)), (0, .long (lN g)), (2, .long (lN l))]) dX6_commonDivisor_7 (by decide) rfl ?_
  exact cd_loop 63 0 l g (by decide) hl (by decide) hg h
set_option maxRecDepth 100000 in
set_option maxHeartbeats 4000000 in
theorem sp_X6_lowest {a b t : Nat} (ha : a < 2 ^ 63) (hb : b < 2 ^ 63) (hb0 : 0 < b) (ht : t < 2) (h : Ph (some (.long (lN ((if t = 0 then a else b) / Nat.gcd a b)))) A L) : qC E mm_X6_lowest (d + 1) [.long (lN a), .long (lN b), .int (nI t)] A L Ph := by
  have g1 : 1 ≤ Nat.gcd a b := Nat.gcd_pos_of_pos_right _ hb0
  have g2 : Nat.gcd a b < 2 ^ 63 := Nat.lt_of_le_of_lt (Nat.le_of_dvd hb0 (Nat.gcd_dvd_right a b)) hb
  refine qC.enter (by decide) (Nat.le_of_ble_eq_true rfl) ?_
  rcases (show t = 0 ∨ t = 1 by omega) with rfl | rfl
  · refine r_lload_n dX6_lowest_0 rfl ?_
    refine r_lload_n dX6_lowest_1 rfl ?_
    refine r_callS2 dX6_lowest_2 lk_X6_337 (Nat.le_of_ble_eq_true rfl) (sp_X6_commonDivisor ha hb ?_)
    refine r_lstore (loc' := [(5, .long (lN (Nat.gcd a b))), (0, .long (lN a)), (2, .long (lN b)), (4, .int (nI 0))]) dX6_lowest_5 (by decide) rfl ?_
    refine r_lload dX6_lowest_7 rfl ?_
    refine r_lconst (v := 1) dX6_lowest_9 rfl ?_
    refine r_lcmp dX6_lowest_10 ?_
    refine r_if_ge (tgt := 18) dX6_lowest_11 (by decide) (fun _ => ?_) (fun hqz => absurd (lgc1 g2 g1) hqz)
    refine r_iload dX6_lowest_18 rfl ?_
    refine r_if_ne (tgt := 27) dX6_lowest_20 (by decide) (fun hqz => absurd (by decide) hqz) (fun _ => ?_)
    refine r_lload_n dX6_lowest_23 rfl ?_
    refine r_goto (tgt := 28) dX6_lowest_24 (by decide) ?_
    refine r_lload dX6_lowest_28 rfl ?_
    refine r_ldiv dX6_lowest_30 (fun q => by have := (pk_lEQ g2 (by decide : 0 < 2 ^ 63)).mp q; omega) ?_
    refine r_rwl (y := lN (a / Nat.gcd a b)) (pk_lDiv ha (by omega) g2) ?_
    refine r_lreturn dX6_lowest_31 rfl ?_
    exact h
  · refine r_lload_n dX6_lowest_0 rfl ?_
    refine r_lload_n dX6_lowest_1 rfl ?_
    refine r_callS2 dX6_lowest_2 lk_X6_337 (Nat.le_of_ble_eq_true rfl) (sp_X6_commonDivisor ha hb ?_)
    refine r_lstore (loc' := [(5, .long (lN (Nat.gcd a b))), (0, .long (lN a)), (2, .long (lN b)), (4, .int (nI 1))]) dX6_lowest_5 (by decide) rfl ?_
    refine r_lload dX6_lowest_7 rfl ?_
    refine r_lconst (v := 1) dX6_lowest_9 rfl ?_
    refine r_lcmp dX6_lowest_10 ?_
    refine r_if_ge (tgt := 18) dX6_lowest_11 (by decide) (fun _ => ?_) (fun hqz => absurd (lgc1 g2 g1) hqz)
    refine r_iload dX6_lowest_18 rfl ?_
    refine r_if_ne (tgt := 27) dX6_lowest_20 (by decide) (fun _ => ?_) (fun hqz => absurd hqz (by decide))
    refine r_lload_n dX6_lowest_27 rfl ?_
    refine r_lload dX6_lowest_28 rfl ?_
    refine r_ldiv dX6_lowest_30 (fun q => by have := (pk_lEQ g2 (by decide : 0 < 2 ^ 63)).mp q; omega) ?_
    refine r_rwl (y := lN (b / Nat.gcd a b)) (pk_lDiv hb (by omega) g2) ?_
    refine r_lreturn dX6_lowest_31 rfl ?_
    exact h
set_option maxRecDepth 100000 in
set_option maxHeartbeats 4000000 in
theorem fd_loop {z0 a0 : Int32} {m : Nat} (hm : m < 100) : ∀ (k i : Nat) (x a : Int32) (A : mA), i + k = m → CE E A S T r kd nr → (∀ A', FrT A A' → Ph (some (.int (drF (farF S r kd nr) (bwF S r kd nr) k x a))) A' L) → qG E mm_X6_farDrawn (d + 4) 9 [(6, .int (nI i)), (5, .int a), (4, .int x), (0, .ref 0), (1, .int z0), (2, .int a0), (3, .int (nI m))] [] A L Ph := by
  intro k
  induction k with
  | zero =>
    intro i x a A hi hc h
    have hE := hc.1
    have hi : i = m := by omega
    subst hi
    refine r_iload dX6_farDrawn_9 rfl ?_
    refine r_iload_n dX6_farDrawn_11 rfl ?_
    refine r_icmp_ge (tgt := 52) dX6_farDrawn_12 (by decide) (fun _ => ?_) (fun hqz => absurd (nI_le (Nat.le_refl _) (by omega)) hqz)
    refine r_aload_n dX6_farDrawn_52 rfl ?_
    refine r_getR dX6_farDrawn_53 fl_X6_38 (ly_0 hE) rfl ?_
    refine r_iload dX6_farDrawn_56 rfl ?_
    refine r_callV1 dX6_farDrawn_58 lk_X6_138 (ly_5 hE) rfl (Nat.le_of_ble_eq_true rfl) (sp_X4_far hc (fun A1 f1 => ?_))
    refine r_ireturn dX6_farDrawn_61 rfl rfl ?_
    exact h A1 f1
  | succ k ih =>
    intro i x a A hi hc h
    have hE := hc.1
    refine r_iload dX6_farDrawn_9 rfl ?_
    refine r_iload_n dX6_farDrawn_11 rfl ?_
    refine r_icmp_ge (tgt := 52) dX6_farDrawn_12 (by decide) (fun hqz => absurd hqz (nI_ge (show i < m by omega) (by omega))) (fun _ => ?_)
    refine r_iload dX6_farDrawn_15 rfl ?_
    refine r_ldcw dX6_farDrawn_17 kc_X6_296 ?_
    refine r_imul dX6_farDrawn_20 ?_
    refine r_sipush (v := 12345) dX6_farDrawn_21 rfl ?_
    refine r_iadd dX6_farDrawn_24 ?_
    refine r_topi (fun v25 e25 => ?_)
    refine r_istore (loc' := [(4, .int v25), (6, .int (nI i)), (5, .int a), (0, .ref 0), (1, .int z0), (2, .int a0), (3, .int (nI m))]) dX6_farDrawn_25 (by decide) rfl ?_
    refine r_aload_n dX6_farDrawn_27 rfl ?_
    refine r_getR dX6_farDrawn_28 fl_X6_38 (ly_0 hE) rfl ?_
    refine r_iload dX6_farDrawn_31 rfl ?_
    refine r_iload dX6_farDrawn_33 rfl ?_
    refine r_bipush (v := 9) dX6_farDrawn_35 rfl ?_
    refine r_iushr dX6_farDrawn_37 ?_
    refine r_bipush (v := 6) dX6_farDrawn_38 rfl ?_
    refine r_irem dX6_farDrawn_40 (by decide) ?_
    refine r_callV2 dX6_farDrawn_41 lk_X6_149 (ly_5 hE) rfl (Nat.le_of_ble_eq_true rfl) (sp_X4_heated hc (fun A1 f1 => ?_))
    refine r_topi (fun v44 e44 => ?_)
    refine r_istore (loc' := [(5, .int v44), (4, .int v25), (6, .int (nI i)), (0, .ref 0), (1, .int z0), (2, .int a0), (3, .int (nI m))]) dX6_farDrawn_44 (by decide) rfl ?_
    refine r_iinc (v := (nI (i + 1))) (loc' := [(6, .int (nI (i + 1))), (5, .int v44), (4, .int v25), (0, .ref 0), (1, .int z0), (2, .int a0), (3, .int (nI m))]) dX6_farDrawn_46 rfl ((nI_succ _).symm) (by decide) rfl ?_
    refine r_goto (tgt := 9) dX6_farDrawn_49 (by decide) ?_
    refine qG.pick [0, 1, 2, 3, 4, 5, 6] rfl ?_
    subst e25
    subst e44
    exact ih (i + 1) _ _ A1 (by omega) (hc.fr f1) (fun A2 f2 => h A2 (f1.tr f2))
set_option maxRecDepth 100000 in
set_option maxHeartbeats 4000000 in
theorem sp_X6_farDrawn (hc : CE E A S T r kd nr) {x a : Int32} {m : Nat} (hm : m < 100) (h : ∀ A', FrT A A' → Ph (some (.int (drF (farF S r kd nr) (bwF S r kd nr) m x a))) A' L) : qC E mm_X6_farDrawn (d + 4) [.ref 0, .int x, .int a, .int (nI m)] A L Ph := by
  refine qC.enter (by decide) (Nat.le_of_ble_eq_true rfl) ?_
  refine r_iload_n dX6_farDrawn_0 rfl ?_
  refine r_istore (loc' := [(4, .int x), (0, .ref 0), (1, .int x), (2, .int a), (3, .int (nI m))]) dX6_farDrawn_1 (by decide) rfl ?_
  refine r_iload_n dX6_farDrawn_3 rfl ?_
  refine r_istore (loc' := [(5, .int a), (4, .int x), (0, .ref 0), (1, .int x), (2, .int a), (3, .int (nI m))]) dX6_farDrawn_4 (by decide) rfl ?_
  refine r_iconst (v := 0) dX6_farDrawn_6 rfl ?_
  refine r_istore (loc' := [(6, .int 0), (5, .int a), (4, .int x), (0, .ref 0), (1, .int x), (2, .int a), (3, .int (nI m))]) dX6_farDrawn_7 (by decide) rfl ?_
  exact fd_loop hm m 0 x a A (by omega) hc h
set_option maxRecDepth 100000 in
set_option maxHeartbeats 4000000 in
theorem fb_loop {z0 a0 : Int32} {m : Nat} (hm' : m < 100) : ∀ (k i : Nat) (x a : Int32) (A : mA), i + k = m → ME E A S T r kd nr → (∀ A', Fr [46] A A' → Ph (some (.int (drF (farF S r kd nr) (bwF S r kd nr) k x a))) A' L) → qG E mm_X7_farBehind (d + 5) 9 [(6, .int (nI i)), (5, .int a), (4, .int x), (0, .ref 38), (1, .int z0), (2, .int a0), (3, .int (nI m))] [] A L Ph := by
  intro k
  induction k with
  | zero =>
    intro i x a A hi hm h
    have hE := hm.1
    have hi : i = m := by omega
    subst hi
    refine r_iload dX7_farBehind_9 rfl ?_
    refine r_iload_n dX7_farBehind_11 rfl ?_
    refine r_icmp_ge (tgt := 49) dX7_farBehind_12 (by decide) (fun _ => ?_) (fun hqz => absurd (nI_le (Nat.le_refl _) (by omega)) hqz)
    refine r_aload_n dX7_farBehind_49 rfl ?_
    refine r_iload dX7_farBehind_50 rfl ?_
    refine r_callV1 dX7_farBehind_52 lk_X7_113 (ly_38 hE) rfl (Nat.le_of_ble_eq_true rfl) (sp_X7_far hm (fun A1 f1 => ?_))
    refine r_ireturn dX7_farBehind_55 rfl rfl ?_
    exact h A1 f1
  | succ k ih =>
    intro i x a A hi hm h
    have hE := hm.1
    refine r_iload dX7_farBehind_9 rfl ?_
    refine r_iload_n dX7_farBehind_11 rfl ?_
    refine r_icmp_ge (tgt := 49) dX7_farBehind_12 (by decide) (fun hqz => absurd hqz (nI_ge (show i < m by omega) (by omega))) (fun _ => ?_)
    refine r_iload dX7_farBehind_15 rfl ?_
    refine r_ldcw dX7_farBehind_17 kc_X7_274 ?_
    refine r_imul dX7_farBehind_20 ?_
    refine r_sipush (v := 12345) dX7_farBehind_21 rfl ?_
    refine r_iadd dX7_farBehind_24 ?_
    refine r_topi (fun v25 e25 => ?_)
    refine r_istore (loc' := [(4, .int v25), (6, .int (nI i)), (5, .int a), (0, .ref 38), (1, .int z0), (2, .int a0), (3, .int (nI m))]) dX7_farBehind_25 (by decide) rfl ?_
    refine r_aload_n dX7_farBehind_27 rfl ?_
    refine r_iload dX7_farBehind_28 rfl ?_
    refine r_iload dX7_farBehind_30 rfl ?_
    refine r_bipush (v := 9) dX7_farBehind_32 rfl ?_
    refine r_iushr dX7_farBehind_34 ?_
    refine r_bipush (v := 6) dX7_farBehind_35 rfl ?_
    refine r_irem dX7_farBehind_37 (by decide) ?_
    refine r_callV2 dX7_farBehind_38 lk_X7_212 (ly_38 hE) rfl (Nat.le_of_ble_eq_true rfl) (sp_X7_behindWord hm (fun A1 f1 => ?_))
    refine r_topi (fun v41 e41 => ?_)
    refine r_istore (loc' := [(5, .int v41), (4, .int v25), (6, .int (nI i)), (0, .ref 38), (1, .int z0), (2, .int a0), (3, .int (nI m))]) dX7_farBehind_41 (by decide) rfl ?_
    refine r_iinc (v := (nI (i + 1))) (loc' := [(6, .int (nI (i + 1))), (5, .int v41), (4, .int v25), (0, .ref 38), (1, .int z0), (2, .int a0), (3, .int (nI m))]) dX7_farBehind_43 rfl ((nI_succ _).symm) (by decide) rfl ?_
    refine r_goto (tgt := 9) dX7_farBehind_46 (by decide) ?_
    refine qG.pick [0, 1, 2, 3, 4, 5, 6] rfl ?_
    subst e25
    subst e41
    exact ih (i + 1) _ _ A1 (by omega) (hm.f46 f1) (fun A2 f2 => h A2 (f1.tr f2))
set_option maxRecDepth 100000 in
set_option maxHeartbeats 4000000 in
theorem sp_X7_farBehind (hm : ME E A S T r kd nr) {x a : Int32} {m : Nat} (hm' : m < 100) (h : ∀ A', Fr [46] A A' → Ph (some (.int (drF (farF S r kd nr) (bwF S r kd nr) m x a))) A' L) : qC E mm_X7_farBehind (d + 5) [.ref 38, .int x, .int a, .int (nI m)] A L Ph := by
  refine qC.enter (by decide) (Nat.le_of_ble_eq_true rfl) ?_
  refine r_iload_n dX7_farBehind_0 rfl ?_
  refine r_istore (loc' := [(4, .int x), (0, .ref 38), (1, .int x), (2, .int a), (3, .int (nI m))]) dX7_farBehind_1 (by decide) rfl ?_
  refine r_iload_n dX7_farBehind_3 rfl ?_
  refine r_istore (loc' := [(5, .int a), (4, .int x), (0, .ref 38), (1, .int x), (2, .int a), (3, .int (nI m))]) dX7_farBehind_4 (by decide) rfl ?_
  refine r_iconst (v := 0) dX7_farBehind_6 rfl ?_
  refine r_istore (loc' := [(6, .int 0), (5, .int a), (4, .int x), (0, .ref 38), (1, .int x), (2, .int a), (3, .int (nI m))]) dX7_farBehind_7 (by decide) rfl ?_
  exact fb_loop hm' m 0 x a A (by omega) hm h
end OPS5
