theorem ush {n k : Nat} (hn : n < 2 ^ 64) (hk : k < 64) : ((lN n).toUInt64 >>> ((nI k).toInt64.toUInt64 &&& Int64.toUInt64 63)).toInt64 = lN (n / 2 ^ k) := wb_shr hn hk
theorem bmB_ext (f : Nat → Nat) (h0 : f 0 = 0) (m : Nat) : ∀ (k x : Nat), x < 256 ^ k → bmB f (k + m) x = bmB f k x
  | 0, x, h => by
    have : x = 0 := by simpa using h
    subst this
    rw [bmB_zero f h0, bmB_zero f h0]
  | k + 1, x, h => by
    have ih := bmB_ext f h0 m k (x / 256) (by rw [Nat.pow_succ] at h; omega)
    rw [show k + 1 + m = (k + m) + 1 by omega]
    simp only [bmB]
    rw [ih]
set_option maxHeartbeats 4000000 in
theorem bc_eq (f : Nat → Int32) {v9 v23 v33 v40 v47 v54 : Int64} (e9 : v9 = lN (bmN f 40) - (((lN (bmN f 40)).toUInt64 >>> (((1 : Int32)).toInt64.toUInt64 &&& Int64.toUInt64 63)).toInt64 &&& 6148914691236517205)) (e23 : v23 = (v9 &&& 3689348814741910323) + (((v9).toUInt64 >>> (((2 : Int32)).toInt64.toUInt64 &&& Int64.toUInt64 63)).toInt64 &&& 3689348814741910323)) (e33 : v33 = (v23 + ((v23).toUInt64 >>> (((4 : Int32)).toInt64.toUInt64 &&& Int64.toUInt64 63)).toInt64) &&& 1085102592571150095) (e40 : v40 = v33 + ((v33).toUInt64 >>> (((8 : Int32)).toInt64.toUInt64 &&& Int64.toUInt64 63)).toInt64) (e47 : v47 = v40 + ((v40).toUInt64 >>> (((16 : Int32)).toInt64.toUInt64 &&& Int64.toUInt64 63)).toInt64) (e54 : v54 = v47 + ((v47).toUInt64 >>> (((32 : Int32)).toInt64.toUInt64 &&& Int64.toUInt64 63)).toInt64) : v54.toInt32 &&& 127 = nI (cnz f 40) := by
  have hX : bmN f 40 < 2 ^ 40 := bmN_lt f 40
  generalize hx : bmN f 40 = X at *
  have hX8 : X < 256 ^ 8 := by omega
  obtain ⟨s1, s1'⟩ := st1B 8 X hX8
  have m1 : mkB 85 8 = 6148914691236517205 := by decide +kernel
  have m2 : mkB 51 8 = 3689348814741910323 := by decide +kernel
  have m3 : mkB 15 8 = 1085102592571150095 := by decide +kernel
  rw [m1] at s1 s1'
  have a9 : v9 = lN (bmB p1B 8 X) := by
    rw [e9, show (1 : Int32) = nI 1 from rfl, ush (by omega) (by decide), show (6148914691236517205 : Int64) = lN 6148914691236517205 from rfl, wb_and (by omega) (by decide), lN_sub s1']
    exact congrArg lN (by omega)
  have q1 : bmB p1B 8 X < 256 ^ 8 := bmB_lt _ (fun b hb => (l1B b hb).2) 8 X
  have s2' := st2B 8 (bmB p1B 8 X) q1
  rw [m2] at s2'
  have l2 : ∀ b, b < 256 → p2B (p1B b) < 256 := fun b hb => by have := l2B b hb; omega
  have c2 := bmB_comp p1B p2B (fun b hb => (l1B b hb).2) 8 X
  have q2 : bmB (fun b => p2B (p1B b)) 8 X < 256 ^ 8 := bmB_lt _ l2 8 X
  have a23 : v23 = lN (bmB (fun b => p2B (p1B b)) 8 X) := by
    rw [e23, a9, show (2 : Int32) = nI 2 from rfl, ush (by omega) (by decide), show (3689348814741910323 : Int64) = lN 3689348814741910323 from rfl, wb_and (by omega) (by decide), wb_and (by omega) (by decide), lN_add, show (2 : Nat) ^ 2 = 4 from rfl, s2', c2]
  have hf := hfB_bm 8 X
  have s3 := st3B 8 _ q2 hf
  rw [m3] at s3
  have c3 := bmB_comp (fun b => p2B (p1B b)) p3B l2 8 X
  obtain ⟨c0, c1, c2, c3', c4, g0, g1, g2, g3, g4, g5, g6⟩ := five f
  rw [hx] at g5
  have g5' : bmB (fun b => p3B (p2B (p1B b))) 8 X = c0 + 256 * c1 + 65536 * c2 + 16777216 * c3' + 4294967296 * c4 := g5
  have hbig : bmB (fun b => p2B (p1B b)) 8 X + bmB (fun b => p2B (p1B b)) 8 X / 16 < 2 ^ 64 := by
    have e : bmB (fun b => p2B (p1B b)) 8 X = bmB (fun b => p2B (p1B b)) 5 X := bmB_ext (fun b => p2B (p1B b)) (by decide) 3 5 X (by omega)
    have e2 := bmB_lt _ l2 5 X
    omega
  have a33 : v33 = lN (c0 + 256 * c1 + 65536 * c2 + 16777216 * c3' + 4294967296 * c4) := by
    rw [e33, a23, show (4 : Int32) = nI 4 from rfl, ush (by omega) (by decide), lN_add, show (1085102592571150095 : Int64) = lN 1085102592571150095 from rfl, show (2 : Nat) ^ 4 = 16 from rfl, wb_and hbig (by decide), s3, c3, g5']
  have a40 : v40 = lN ((c0 + c1) + 256 * (c1 + c2) + 65536 * (c2 + c3') + 16777216 * (c3' + c4) + 4294967296 * c4) := by
    rw [e40, a33, show (8 : Int32) = nI 8 from rfl, ush (by omega) (by decide), lN_add, show (2 : Nat) ^ 8 = 256 from rfl]
    exact congrArg lN (by omega)
  have a47 : v47 = lN ((c0 + c1 + c2 + c3') + 256 * (c1 + c2 + c3' + c4) + 65536 * (c2 + c3' + c4) + 16777216 * (c3' + c4) + 4294967296 * c4) := by
    rw [e47, a40, show (16 : Int32) = nI 16 from rfl, ush (by omega) (by decide), lN_add, show (2 : Nat) ^ 16 = 65536 from rfl]
    exact congrArg lN (by omega)
  have a54 : v54 = lN ((c0 + c1 + c2 + c3' + c4) + 256 * (c1 + c2 + c3' + c4) + 65536 * (c2 + c3' + c4) + 16777216 * (c3' + c4) + 4294967296 * c4) := by
    rw [e54, a47, show (32 : Int32) = nI 32 from rfl, ush (by omega) (by decide), lN_add, show (2 : Nat) ^ 32 = 4294967296 from rfl]
    exact congrArg lN (by omega)
  rw [a54, lN_i, show (127 : Int32) = nI (2 ^ 7 - 1) from rfl, fa_mask, g6]
  congr 1
  rw [show (2 : Nat) ^ 7 = 128 from rfl]
  omega
section SCENE
variable {E : mE} {d : Nat} {A S : mA} {L : mJ} {Ph : mP}

set_option maxRecDepth 100000 in
set_option maxHeartbeats 4000000 in
theorem sp_J13_bitCount (f : Nat → Int32) {x : Int64} (hx : x = lN (bmN f 40)) (h : Ph (some (.int (nI (cnz f 40)))) A L) : qC E mm_J13_bitCount_95d88 d [.long x] A L Ph := by
  subst hx
  refine qC.enter (by decide) (Nat.le_of_ble_eq_true rfl) ?_
  refine r_lload_n dJ13_bitCount_95d88_0 rfl ?_
  refine r_lload_n dJ13_bitCount_95d88_1 rfl ?_
  refine r_iconst (v := 1) dJ13_bitCount_95d88_2 rfl ?_
  refine r_lushr dJ13_bitCount_95d88_3 ?_
  refine r_ldc2 dJ13_bitCount_95d88_4 kc_J13_314 ?_
  refine r_land dJ13_bitCount_95d88_7 ?_
  refine r_lsub dJ13_bitCount_95d88_8 ?_
  refine r_topl (fun v9 e9 => ?_)
  refine r_lstore_n (loc' := [(0, .long v9)]) dJ13_bitCount_95d88_9 (by decide) rfl ?_
  refine r_lload_n dJ13_bitCount_95d88_10 rfl ?_
  refine r_ldc2 dJ13_bitCount_95d88_11 kc_J13_316 ?_
  refine r_land dJ13_bitCount_95d88_14 ?_
  refine r_lload_n dJ13_bitCount_95d88_15 rfl ?_
  refine r_iconst (v := 2) dJ13_bitCount_95d88_16 rfl ?_
  refine r_lushr dJ13_bitCount_95d88_17 ?_
  refine r_ldc2 dJ13_bitCount_95d88_18 kc_J13_316 ?_
  refine r_land dJ13_bitCount_95d88_21 ?_
  refine r_ladd dJ13_bitCount_95d88_22 ?_
  refine r_topl (fun v23 e23 => ?_)
  refine r_lstore_n (loc' := [(0, .long v23)]) dJ13_bitCount_95d88_23 (by decide) rfl ?_
  refine r_lload_n dJ13_bitCount_95d88_24 rfl ?_
  refine r_lload_n dJ13_bitCount_95d88_25 rfl ?_
  refine r_iconst (v := 4) dJ13_bitCount_95d88_26 rfl ?_
  refine r_lushr dJ13_bitCount_95d88_27 ?_
  refine r_ladd dJ13_bitCount_95d88_28 ?_
  refine r_ldc2 dJ13_bitCount_95d88_29 kc_J13_318 ?_
  refine r_land dJ13_bitCount_95d88_32 ?_
  refine r_topl (fun v33 e33 => ?_)
  refine r_lstore_n (loc' := [(0, .long v33)]) dJ13_bitCount_95d88_33 (by decide) rfl ?_
  refine r_lload_n dJ13_bitCount_95d88_34 rfl ?_
  refine r_lload_n dJ13_bitCount_95d88_35 rfl ?_
  refine r_bipush (v := 8) dJ13_bitCount_95d88_36 rfl ?_
  refine r_lushr dJ13_bitCount_95d88_38 ?_
  refine r_ladd dJ13_bitCount_95d88_39 ?_
  refine r_topl (fun v40 e40 => ?_)
  refine r_lstore_n (loc' := [(0, .long v40)]) dJ13_bitCount_95d88_40 (by decide) rfl ?_
  refine r_lload_n dJ13_bitCount_95d88_41 rfl ?_
  refine r_lload_n dJ13_bitCount_95d88_42 rfl ?_
  refine r_bipush (v := 16) dJ13_bitCount_95d88_43 rfl ?_
  refine r_lushr dJ13_bitCount_95d88_45 ?_
  refine r_ladd dJ13_bitCount_95d88_46 ?_
  refine r_topl (fun v47 e47 => ?_)
  refine r_lstore_n (loc' := [(0, .long v47)]) dJ13_bitCount_95d88_47 (by decide) rfl ?_
  refine r_lload_n dJ13_bitCount_95d88_48 rfl ?_
  refine r_lload_n dJ13_bitCount_95d88_49 rfl ?_
  refine r_bipush (v := 32) dJ13_bitCount_95d88_50 rfl ?_
  refine r_lushr dJ13_bitCount_95d88_52 ?_
  refine r_ladd dJ13_bitCount_95d88_53 ?_
  refine r_topl (fun v54 e54 => ?_)
  refine r_lstore_n (loc' := [(0, .long v54)]) dJ13_bitCount_95d88_54 (by decide) rfl ?_
  refine r_lload_n dJ13_bitCount_95d88_55 rfl ?_
  refine r_l2i dJ13_bitCount_95d88_56 ?_
  refine r_bipush (v := 127) dJ13_bitCount_95d88_57 rfl ?_
  refine r_iand dJ13_bitCount_95d88_59 ?_
  refine r_ireturn dJ13_bitCount_95d88_60 rfl rfl ?_
  rw [bc_eq f e9 e23 e33 e40 e47 e54]
  exact h
theorem sp_X2_has (hE : hC E) {v : Int32} (n : Nat) (hn : n ≤ 5) (h5 : A 1 5 = nI n) (h1 : ∀ p, p < n → v = nI p → Ph (some (.int 1)) A L) (h0 : (∀ p, p < n → v ≠ nI p) → Ph (some (.int 0)) A L) : qC E mm_X2_has (d + 1) [.ref 1, .int v] A L Ph := by
  refine qC.enter (by decide) (Nat.le_of_ble_eq_true rfl) ?_
  refine r_iload_n dX2_has_0 rfl ?_
  refine r_aload_n dX2_has_1 rfl ?_
  refine r_getI dX2_has_2 fl_X2_33 (ly_1 hE) rfl ?_
  refine r_rw (y := nI n) h5 ?_
  refine r_callN2 dX2_has_5 lk_X2_43 (Nat.le_of_ble_eq_true rfl) (sp_X6_within n rfl (by omega) (fun p hp ep => ?_) (fun hp => ?_))
  · refine r_if_eq (tgt := 20) dX2_has_8 (by decide) (fun hn => absurd hn (by decide)) (fun _ => ?_)
    refine r_iload_n dX2_has_11 rfl ?_
    refine r_iconst (v := 5) dX2_has_12 rfl ?_
    refine r_icmp_ge (tgt := 20) dX2_has_13 (by decide) (fun hn => absurd hn (by rw [ep]; exact nI_ge (show p < 5 by omega) (by decide))) (fun _ => ?_)
    refine r_iconst (v := 1) dX2_has_16 rfl ?_
    refine r_goto (tgt := 21) dX2_has_17 (by decide) ?_
    refine r_ireturn dX2_has_21 rfl (by decide) ?_
    first | exact h1 p hp ep | exact h0 hp
  · refine r_if_eq (tgt := 20) dX2_has_8 (by decide) (fun _ => ?_) (fun hn => absurd (by decide) hn)
    refine r_iconst (v := 0) dX2_has_20 rfl ?_
    refine r_ireturn dX2_has_21 rfl (by decide) ?_
    first | exact h1 p hp ep | exact h0 hp
theorem sp_X2_angerOf (hE : hC E) {p : Nat} (n : Nat) (hn : n ≤ 5) (h5 : A 1 5 = nI n) (hp : p < n) (h : Ph (some (.int (A 15 p))) A L) : qC E mm_X2_angerOf (d + 2) [.ref 1, .int (nI p)] A L Ph := by
  refine qC.enter (by decide) (Nat.le_of_ble_eq_true rfl) ?_
  refine r_aload_n dX2_angerOf_0 rfl ?_
  refine r_iload_n dX2_angerOf_1 rfl ?_
  refine r_callV1 dX2_angerOf_2 lk_X2_47 (ly_1 hE) rfl (Nat.le_of_ble_eq_true rfl) (sp_X2_has hE n hn h5 (fun _ _ _ => ?_) (fun hz => absurd rfl (hz p hp)))
  refine r_if_eq (tgt := 17) dX2_angerOf_5 (by decide) (fun hn => absurd hn (by decide)) (fun _ => ?_)
  refine r_aload_n dX2_angerOf_8 rfl ?_
  refine r_getR dX2_angerOf_9 fl_X2_21 (ly_1 hE) rfl ?_
  refine r_iload_n dX2_angerOf_12 rfl ?_
  refine r_ialdN dX2_angerOf_13 (ly_15 hE) (by omega) (by decide) ?_
  refine r_goto (tgt := 18) dX2_angerOf_14 (by decide) ?_
  refine r_ireturn dX2_angerOf_18 rfl rfl ?_
  exact h
set_option maxRecDepth 100000 in
set_option maxHeartbeats 4000000 in
theorem miles_loop (hE : hC E) : ∀ (n i : Nat), i + n = 40 → (Ph (some (.long (lN (bmN (A 12) 40)))) A L) → qG E mm_X2_milesWithThing d 4 [(3, .int (nI i)), (1, .long (lN (bmN (A 12) i))), (0, .ref 1)] [] A L Ph := by
  intro n
  induction n with
  | zero =>
    intro i hi h
    have hi : i = 40 := by omega
    subst hi
    refine r_iload_n dX2_milesWithThing_4 rfl ?_
    refine r_bipush (v := 40) dX2_milesWithThing_5 rfl ?_
    refine r_icmp_ge (tgt := 35) dX2_milesWithThing_7 (by decide) (fun _ => ?_) (fun hn => absurd (nI_le (Nat.le_refl 40) (by decide)) hn)
    refine r_lload_n dX2_milesWithThing_35 rfl ?_
    refine r_lreturn dX2_milesWithThing_36 rfl ?_
    exact h
  | succ n ih =>
    intro i hi h
    have hb := bmN_lt (A 12) i
    have hp : 2 ^ i < 2 ^ 64 := Nat.pow_lt_pow_right (by decide) (by omega)
    refine r_iload_n dX2_milesWithThing_4 rfl ?_
    refine r_bipush (v := 40) dX2_milesWithThing_5 rfl ?_
    refine r_icmp_ge (tgt := 35) dX2_milesWithThing_7 (by decide) (fun hn => absurd hn (nI_ge (show i < 40 by omega) (by decide))) (fun _ => ?_)
    refine r_lload_n dX2_milesWithThing_10 rfl ?_
    refine r_aload_n dX2_milesWithThing_11 rfl ?_
    refine r_getR dX2_milesWithThing_12 fl_X2_9 (ly_1 hE) rfl ?_
    refine r_iload_n dX2_milesWithThing_15 rfl ?_
    refine r_ialdN dX2_milesWithThing_16 (ly_12 hE) (by omega) (by decide) ?_
    refine r_if_eq (tgt := 26) dX2_milesWithThing_17 (by decide) (fun b17 => ?_) (fun b17 => ?_)
    · refine r_lconst (v := 0) dX2_milesWithThing_26 rfl ?_
      refine r_lor dX2_milesWithThing_27 ?_
      first | refine r_rwl (y := lN (bmN (A 12) (i + 1))) (show lN (bmN (A 12) i) ||| lN 1 <<< ((nI i).toInt64 &&& 63) = _ by rw [wb_shl 1 (by omega), Nat.one_mul, fb_orL, bmN, if_pos b17]; congr 1; have := Nat.two_pow_add_eq_or_of_lt hb 1; rw [Nat.mul_one] at this; rw [Nat.or_comm, ← this, Nat.add_comm]) ?_ | refine r_rwl (y := lN (bmN (A 12) (i + 1))) (show lN (bmN (A 12) i) ||| lN 0 = _ by rw [fb_orL, Nat.or_zero, bmN, if_neg (fun z => z b17), Nat.add_zero]) ?_
      refine r_lstore_n (loc' := [(1, .long (lN (bmN (A 12) (i + 1)))), (3, .int (nI i)), (0, .ref 1)]) dX2_milesWithThing_28 (by decide) rfl ?_
      refine r_iinc (v := (nI (i + 1))) (loc' := [(3, .int (nI (i + 1))), (1, .long (lN (bmN (A 12) (i + 1)))), (0, .ref 1)]) dX2_milesWithThing_29 rfl ((nI_succ _).symm) (by decide) rfl ?_
      refine r_goto (tgt := 4) dX2_milesWithThing_32 (by decide) ?_
      refine qG.pick [0, 1, 2] rfl ?_
      exact ih (i + 1) (by omega) h
    · refine r_lconst (v := 1) dX2_milesWithThing_20 rfl ?_
      refine r_iload_n dX2_milesWithThing_21 rfl ?_
      refine r_lshl dX2_milesWithThing_22 ?_
      refine r_goto (tgt := 27) dX2_milesWithThing_23 (by decide) ?_
      refine r_lor dX2_milesWithThing_27 ?_
      first | refine r_rwl (y := lN (bmN (A 12) (i + 1))) (show lN (bmN (A 12) i) ||| lN 1 <<< ((nI i).toInt64 &&& 63) = _ by rw [wb_shl 1 (by omega), Nat.one_mul, fb_orL, bmN, if_pos b17]; congr 1; have := Nat.two_pow_add_eq_or_of_lt hb 1; rw [Nat.mul_one] at this; rw [Nat.or_comm, ← this, Nat.add_comm]) ?_ | refine r_rwl (y := lN (bmN (A 12) (i + 1))) (show lN (bmN (A 12) i) ||| lN 0 = _ by rw [fb_orL, Nat.or_zero, bmN, if_neg (fun z => z b17), Nat.add_zero]) ?_
      refine r_lstore_n (loc' := [(1, .long (lN (bmN (A 12) (i + 1)))), (3, .int (nI i)), (0, .ref 1)]) dX2_milesWithThing_28 (by decide) rfl ?_
      refine r_iinc (v := (nI (i + 1))) (loc' := [(3, .int (nI (i + 1))), (1, .long (lN (bmN (A 12) (i + 1)))), (0, .ref 1)]) dX2_milesWithThing_29 rfl ((nI_succ _).symm) (by decide) rfl ?_
      refine r_goto (tgt := 4) dX2_milesWithThing_32 (by decide) ?_
      refine qG.pick [0, 1, 2] rfl ?_
      exact ih (i + 1) (by omega) h
theorem sp_X2_milesWithThing (hE : hC E) (h : Ph (some (.long (lN (bmN (A 12) 40)))) A L) : qC E mm_X2_milesWithThing d [.ref 1] A L Ph := by
  refine qC.enter (by decide) (Nat.le_of_ble_eq_true rfl) ?_
  refine r_lconst (v := 0) dX2_milesWithThing_0 rfl ?_
  refine r_lstore_n (loc' := [(1, .long 0), (0, .ref 1)]) dX2_milesWithThing_1 (by decide) rfl ?_
  refine r_iconst (v := 0) dX2_milesWithThing_2 rfl ?_
  refine r_istore_n (loc' := [(3, .int 0), (1, .long 0), (0, .ref 1)]) dX2_milesWithThing_3 (by decide) rfl ?_
  exact miles_loop hE 40 0 rfl h
set_option maxRecDepth 100000 in
set_option maxHeartbeats 4000000 in
/-- of: temper holds a pair -/
theorem sp_X4_of (hE : hC E) {n p : Nat} {f : Nat → Int32} (hn : n ≤ 5) (hp : p < n) (hR : RCn A 1 12 f n) (h60 : f 60 = nI n) (h : ∀ A', Fr [5, 26] A A' → (∀ S r, S 39 = f → f 62 = nI r → TS A' S r (f (40 + 4 * p)) (f (41 + 4 * p))) → Ph none A' L) : qC E mm_X4_of (d + 2) [.ref 5, .ref 1, .int (nI p)] A L Ph := by
  obtain ⟨r1, r2, r3, r4, r5⟩ := hR
  obtain ⟨p1, p2, p3, p4⟩ := r2 p hp
  refine qC.enter (by decide) (Nat.le_of_ble_eq_true rfl) ?_
  refine r_aload_n dX4_of_0 rfl ?_
  refine r_iload_n dX4_of_1 rfl ?_
  refine r_callV1 dX4_of_2 lk_X4_19 (ly_1 hE) rfl (Nat.le_of_ble_eq_true rfl) (sp_X2_has hE n hn (r3.trans h60) (fun _ _ _ => ?_) (fun hz => absurd rfl (hz p hp)))
  refine r_if_ne (tgt := 9) dX4_of_5 (by decide) (fun _ => ?_) (fun hn => absurd hn (by decide))
  refine r_aload_n dX4_of_9 rfl ?_
  refine r_aload_n dX4_of_10 rfl ?_
  refine r_getI dX4_of_11 fl_X4_25 (ly_1 hE) rfl ?_
  refine r_putI dX4_of_14 fl_X4_29 fp_4_2 (ly_5 hE) rfl rfl rfl ?_
  refine r_aload_n dX4_of_17 rfl ?_
  refine r_aload_n dX4_of_18 rfl ?_
  refine r_getR dX4_of_19 fl_X4_30 (ly_1 hE) rfl ?_
  refine r_iload_n dX4_of_22 rfl ?_
  refine r_ialdN dX4_of_23 (ly_13 hE) (by omega) (by decide) ?_
  refine r_putI dX4_of_24 fl_X4_33 fp_4_3 (ly_5 hE) rfl rfl rfl ?_
  refine r_aload_n dX4_of_27 rfl ?_
  refine r_getR dX4_of_28 fl_X4_9 (ly_5 hE) rfl ?_
  refine r_iconst (v := (nI 2)) dX4_of_31 rfl ?_
  refine r_aload_n dX4_of_32 rfl ?_
  refine r_getR dX4_of_33 fl_X4_36 (ly_1 hE) rfl ?_
  refine r_iload_n dX4_of_36 rfl ?_
  refine r_ialdN dX4_of_37 (ly_14 hE) (by omega) (by decide) ?_
  refine r_iastN dX4_of_38 (ly_26 hE) (by decide) (by decide) ?_
  refine r_aload_n dX4_of_39 rfl ?_
  refine r_getR dX4_of_40 fl_X4_9 (ly_5 hE) rfl ?_
  refine r_iconst (v := (nI 3)) dX4_of_43 rfl ?_
  refine r_aload_n dX4_of_44 rfl ?_
  refine r_getI dX4_of_45 fl_X4_39 (ly_1 hE) rfl ?_
  refine r_iastN dX4_of_48 (ly_26 hE) (by decide) (by decide) ?_
  refine r_aload_n dX4_of_49 rfl ?_
  refine r_getR dX4_of_50 fl_X4_9 (ly_5 hE) rfl ?_
  refine r_iconst (v := (nI 4)) dX4_of_53 rfl ?_
  refine r_aload_n dX4_of_54 rfl ?_
  refine r_callV0 dX4_of_55 lk_X4_42 (ly_1 hE) rfl (Nat.le_of_ble_eq_true rfl) (sp_X2_milesWithThing hE ?_)
  refine r_callS1 dX4_of_58 lk_X4_46 (Nat.le_of_ble_eq_true rfl) (sp_J13_bitCount _ rfl ?_)
  refine r_iastN dX4_of_61 (ly_26 hE) (by decide) (by decide) ?_
  refine r_aload_n dX4_of_62 rfl ?_
  refine r_getR dX4_of_63 fl_X4_9 (ly_5 hE) rfl ?_
  refine r_iconst (v := (nI 5)) dX4_of_66 rfl ?_
  refine r_aload_n dX4_of_67 rfl ?_
  refine r_getI dX4_of_68 fl_X4_52 (ly_1 hE) rfl ?_
  refine r_iastN dX4_of_71 (ly_26 hE) (by decide) (by decide) ?_
  refine r_return dX4_of_72 rfl ?_
  refine h _ ((Fr.s2 (by decide)).tr ((Fr.s2 (by decide)).tr ((Fr.s2 (by decide)).tr ((Fr.s2 (by decide)).tr ((Fr.s2 (by decide)).tr (Fr.s2 (by decide))))))) (fun S r eS er => ⟨?_, ?_, ?_, ?_, ?_, ?_⟩)
  · simp only [s2_nj (show ((5 : Nat) = 26 → (2 : Nat) ≠ 5) from fun z => absurd z (by decide)), s2_ne (show (5 : Nat) ≠ 26 by decide), s2_nj (show ((5 : Nat) = 5 → (2 : Nat) ≠ 3) from fun _ => by decide), s2_same, r5, er]
  · simp only [s2_ne (show (5 : Nat) ≠ 26 by decide), s2_same, s2_ne (show (13 : Nat) ≠ 5 by decide)]
    exact p1
  · rw [s2_nj (fun _ => by decide), s2_nj (fun _ => by decide), s2_nj (fun _ => by decide), s2_same]
    simp only [s2_ne (show (14 : Nat) ≠ 5 by decide)]
    exact p2
  · rw [s2_nj (fun _ => by decide), s2_nj (fun _ => by decide), s2_same]
    simp only [s2_ne (show (1 : Nat) ≠ 26 by decide), s2_ne (show (1 : Nat) ≠ 5 by decide)]
    rw [eS]
    exact r4
  · rw [s2_nj (fun _ => by decide), s2_same]
    simp only [s2_ne (show (12 : Nat) ≠ 26 by decide), s2_ne (show (12 : Nat) ≠ 5 by decide)]
    rw [eS, cnz_cong r1]
  · rw [s2_same]
    simp only [s2_ne (show (1 : Nat) ≠ 26 by decide), s2_ne (show (1 : Nat) ≠ 5 by decide)]
    rw [eS]
    exact r3
end SCENE
