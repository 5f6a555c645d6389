/-! the class: what a pair that temper holds does -/
def fkF (kd nr v a : Int32) : Int32 := if kd = 2 then v - nr else if kd = 3 then v + 5 else if kd = 4 then (if a = 0 then 0 else v - nr) else if kd = 5 then 4 * nr else v
def hkF (kd nr v a w : Int32) : Int32 := if kd = 1 then wdV nr w v else if kd = 2 then v / 2 else if kd = 3 then (if 0 < wdV nr w v then wdV nr w v else 0) else if kd = 4 then (if a < 20 then -10 else v / 2) else if kd = 5 then 0 else v
def ckF (kd v a : Int32) : Int32 := if kd = 1 then v - 1 else if kd = 2 then v + 3 else if kd = 3 then (if a ≤ 50 then v - 1 else 0) else if kd = 4 then 2 * (v + 3) else v
theorem n4_40 : ∀ q, q < 10 → clp (4 * nI q) 0 40 = 4 * nI q := by decide
theorem half_ok : ∀ k : Fin 199, clp (Int32.ofInt ((k.val : Int) - 99) / 2) (-99) 99 = Int32.ofInt ((k.val : Int) - 99) / 2 := by decide +kernel
theorem half_clp {v : Int32} (h1 : (-99 : Int32) ≤ v) (h2 : v ≤ 99) : clp (v / 2) (-99) 99 = v / 2 := by
  have e1 : (-99 : Int32).toInt = -99 := by decide
  have e2 : (99 : Int32).toInt = 99 := by decide
  rw [i_le, e1] at h1
  rw [i_le, e2] at h2
  have K := half_ok ⟨(v.toInt + 99).toNat, by omega⟩
  have e3 : (((⟨(v.toInt + 99).toNat, by omega⟩ : Fin 199).val : Int) - 99) = v.toInt := by simp only; omega
  rw [e3, Int32.ofInt_toInt] at K
  exact K
theorem farK (S : mA) (r : Nat) (kd a : Int32) {nr : Int32} (hn : ∃ q, q < 10 ∧ nr = nI q) : clp (fkF kd nr (fV S r nr a) a) 0 40 = farF S r kd nr a := by
  obtain ⟨q, hq, rfl⟩ := hn
  have g1 : (0 : Int32) ≤ fV S r (nI q) a := clp_ge (by decide)
  have g2 : fV S r (nI q) a ≤ 40 := clp_le (by decide)
  unfold fkF farF
  by_cases h2 : kd = 2
  · simp only [if_pos h2]
  simp only [if_neg h2]
  by_cases h3 : kd = 3
  · simp only [if_pos h3]
  simp only [if_neg h3]
  by_cases h4 : kd = 4
  · simp only [if_pos h4]
    by_cases ha : a = 0
    · simp only [if_pos ha]; rfl
    · simp only [if_neg ha]
  simp only [if_neg h4]
  by_cases h5 : kd = 5
  · simp only [if_pos h5]; exact n4_40 q hq
  simp only [if_neg h5]
  exact clp_id g1 g2
theorem clp_max (x : Int32) : clp (if 0 < x then x else 0) (-99) 99 = clp x 0 99 := by
  have e0 : (0 : Int32).toInt = 0 := by decide
  have e1 : (-99 : Int32).toInt = -99 := by decide
  have e2 : (99 : Int32).toInt = 99 := by decide
  unfold clp
  by_cases h : 0 < x
  · rw [if_pos h]
    simp only [i_lt, e0, e1, e2] at *
    rw [if_neg (by omega), if_neg (c := x.toInt < 0) (by omega)]
  · rw [if_neg h, if_neg (by decide), if_neg (by decide)]
    by_cases h2 : x < 0
    · rw [if_pos h2]
    · rw [if_neg h2]
      have : x = 0 := by rw [i_eq]; simp only [i_lt, e0] at *; omega
      subst this
      rfl
theorem heatK (S : mA) (r : Nat) (kd nr a w : Int32) : clp (hkF kd nr (hV S r nr a w) a w) (-99) 99 = heatF S r kd nr a w := by
  have g1 : (-99 : Int32) ≤ hV S r nr a w := clp_ge (by decide)
  have g2 : hV S r nr a w ≤ 99 := clp_le (by decide)
  unfold hkF heatF
  by_cases h1 : kd = 1
  · simp only [if_pos h1]
  simp only [if_neg h1]
  by_cases h2 : kd = 2
  · simp only [if_pos h2]; exact half_clp g1 g2
  simp only [if_neg h2]
  by_cases h3 : kd = 3
  · simp only [if_pos h3]; exact clp_max _
  simp only [if_neg h3]
  by_cases h4 : kd = 4
  · simp only [if_pos h4]
    by_cases ha : a < 20
    · simp only [if_pos ha]; rfl
    · simp only [if_neg ha]; exact half_clp g1 g2
  simp only [if_neg h4]
  by_cases h5 : kd = 5
  · simp only [if_pos h5]; rfl
  simp only [if_neg h5]
  exact clp_id g1 g2
theorem coolK (S : mA) (r : Nat) (kd nr a : Int32) : clp (ckF kd (cV S r nr a) a) 0 99 = coolF S r kd nr a := by
  have g1 : (0 : Int32) ≤ cV S r nr a := clp_ge (by decide)
  have g2 : cV S r nr a ≤ 99 := clp_le (by decide)
  unfold ckF coolF
  by_cases h1 : kd = 1
  · simp only [if_pos h1]
  simp only [if_neg h1]
  by_cases h2 : kd = 2
  · simp only [if_pos h2]
  simp only [if_neg h2]
  by_cases h3 : kd = 3
  · simp only [if_pos h3]
    by_cases ha : a ≤ 50
    · simp only [if_pos ha]
    · simp only [if_neg ha]; rfl
  simp only [if_neg h3]
  by_cases h4 : kd = 4
  · simp only [if_pos h4]
  simp only [if_neg h4]
  exact clp_id g1 g2
section CEVAL
variable {E : mE} {d : Nat} {A S : mA} {L : mJ} {Ph : mP} {T r : Nat} {kd nr : Int32}
def CE (E : mE) (A S : mA) (T r : Nat) (kd nr : Int32) : Prop := hC E ∧ RCt A S T ∧ r < T ∧ T ≤ 6 ∧ (∃ e, TXv S r e) ∧ TS A S r kd nr ∧ ∃ q, q < 10 ∧ nr = nI q
def FrT (A A' : mA) : Prop := Fr [24, 26] A A' ∧ ∀ j, 2 ≤ j → A' 26 j = A 26 j
theorem FrT.rf {A : mA} : FrT A A := ⟨Fr.rf, fun _ _ => rfl⟩
theorem FrT.tr {A B C : mA} (h1 : FrT A B) (h2 : FrT B C) : FrT A C := ⟨h1.1.tr h2.1, fun j hj => (h2.2 j hj).trans (h1.2 j hj)⟩
theorem FrT.c {A A' : mA} (h : FrT A A') : Fr xC A A' := h.1.mo (by decide)
theorem CE.fr {A' : mA} (h : CE E A S T r kd nr) (hf : FrT A A') : CE E A' S T r kd nr := by
  obtain ⟨h1, h2, h3, h4, h5, h6, h7⟩ := h
  refine ⟨h1, ?_, h3, h4, h5, ?_, h7⟩
  · unfold RCt at *
    rw [hf.1 3 (by decide), hf.1 22 (by decide), hf.1 23 (by decide)]
    exact h2
  · unfold TS at *
    rw [hf.1 5 (by decide), hf.2 2 (by decide), hf.2 3 (by decide), hf.2 4 (by decide), hf.2 5 (by decide)]
    exact h6
/-- worth, once the names anger and word are laid -/
theorem sp_worth (hc : CE E A S T r kd nr) (p : Nat) (hp : p < 3) {wd a : Int32} (h : ∀ A', FrT A A' → Ph (some (.int (tl S r p (nvF S wd a nr)))) A' L) : qC E mm_X5_worth (d + 1) [.ref 3, .int (nI r), .int (nI p), .ref 26] (s2 (s2 A 26 1 a) 26 0 wd) L Ph := by
  obtain ⟨hE, hR, hr, hT, ⟨e, he⟩, ⟨t1, t2, t3, t4, t5, t6⟩, hq⟩ := id hc
  obtain ⟨r1, r2, r3⟩ := hR
  obtain ⟨l1, l2⟩ := he.le hp
  have e23 : ∀ i, s2 (s2 A 26 1 a) 26 0 wd 23 i = A 23 i := fun i => by rw [s2_ne (by decide), s2_ne (by decide)]
  refine sp_X5_worth hE r p (spt e p) (e p) (by omega) hp (fun h0 => ?_) (fun h0 => by rw [h0]; rfl) ?_ l1 l2 (f := fun i => S 42 (160 * r + i)) (nv := nvF S wd a nr) (fun i hi => ?_) (fun k hk => ?_) (he.2.2.2.2 p hp) (fun g => ?_)
  · rw [e23, r2 _ (by omega), show 3 * r + p - 1 = 3 * r + (p - 1) by omega, he.1 (p - 1) (by omega)]
    unfold spt
    rw [if_neg h0]
  · rw [e23, r2 _ (by omega), he.1 p hp]
  · rw [s2_ne (by decide), s2_ne (by decide), r3 r i hr]
    rw [TXv_pe he (by decide)]
    have := he.2.1
    have := he.2.2.1
    rcases (show p = 0 ∨ p = 1 ∨ p = 2 by omega) with rfl | rfl | rfl <;> omega
  · rcases (show k = 0 ∨ k = 1 ∨ k = 2 ∨ k = 3 ∨ k = 4 ∨ k = 5 by omega) with rfl | rfl | rfl | rfl | rfl | rfl
    · rw [s2_same]; rfl
    · rw [s2_nj (fun _ => by decide), s2_same]; rfl
    · rw [s2_nj (fun _ => by decide), s2_nj (fun _ => by decide), t3]; rfl
    · rw [s2_nj (fun _ => by decide), s2_nj (fun _ => by decide), t4]; rfl
    · rw [s2_nj (fun _ => by decide), s2_nj (fun _ => by decide), t5]; rfl
    · rw [s2_nj (fun _ => by decide), s2_nj (fun _ => by decide), t6]; rfl
  · have K := h (va_up (s2 (s2 A 26 1 a) 26 0 wd) 24 g) ⟨(Fr.s2 (by decide)).tr ((Fr.s2 (by decide)).tr (Fr.up (by decide))), fun j hj => by rw [va_up_no (by decide), s2_nj (fun _ => by omega), s2_nj (fun _ => by omega)]⟩
    rw [tl_eq he hp] at K
    exact K
set_option maxRecDepth 100000 in
set_option maxHeartbeats 4000000 in
theorem sp_X4_farOfKind (hE : hC E) {v a : Int32} (hk : A 5 3 = kd) (hn : A 26 2 = nr) (h : Ph (some (.int (fkF kd nr v a))) A L) : qC E mm_X4_farOfKind d [.ref 5, .int v, .int a] A L Ph := by
  refine qC.enter (by decide) (Nat.le_of_ble_eq_true rfl) ?_
  refine r_aload_n dX4_farOfKind_0 rfl ?_
  refine r_getI dX4_farOfKind_1 fl_X4_33 (ly_5 hE) rfl ?_
  refine r_rw (y := kd) hk ?_
  by_cases e4_0 : kd = 2
  · refine r_tableIn (off := 32) (tgt := 36) dX4_farOfKind_4 (by rw [e4_0]; decide) (by rw [e4_0]; decide) (by rw [e4_0]; rfl) (by decide) ?_
    refine r_iload_n dX4_farOfKind_36 rfl ?_
    refine r_aload_n dX4_farOfKind_37 rfl ?_
    refine r_getR dX4_farOfKind_38 fl_X4_9 (ly_5 hE) rfl ?_
    refine r_iconst (v := (nI 2)) dX4_farOfKind_41 rfl ?_
    refine r_ialdN dX4_farOfKind_42 (ly_26 hE) (by decide) (by decide) ?_
    refine r_rw (y := nr) hn ?_
    refine r_isub dX4_farOfKind_43 ?_
    refine r_ireturn dX4_farOfKind_44 rfl rfl ?_
    unfold fkF at h
    first | rwa [if_pos e4_0] at h | rwa [if_neg e4_0, if_pos e4_1] at h | rwa [if_neg e4_0, if_neg e4_1, if_pos e4_2, if_pos b50] at h | rwa [if_neg e4_0, if_neg e4_1, if_pos e4_2, if_neg b50] at h | rwa [if_neg e4_0, if_neg e4_1, if_neg e4_2, if_pos e4_3] at h | rwa [if_neg e4_0, if_neg e4_1, if_neg e4_2, if_neg e4_3] at h
  by_cases e4_1 : kd = 3
  · refine r_tableIn (off := 41) (tgt := 45) dX4_farOfKind_4 (by rw [e4_1]; decide) (by rw [e4_1]; decide) (by rw [e4_1]; rfl) (by decide) ?_
    refine r_iload_n dX4_farOfKind_45 rfl ?_
    refine r_iconst (v := 5) dX4_farOfKind_46 rfl ?_
    refine r_iadd dX4_farOfKind_47 ?_
    refine r_ireturn dX4_farOfKind_48 rfl rfl ?_
    unfold fkF at h
    first | rwa [if_pos e4_0] at h | rwa [if_neg e4_0, if_pos e4_1] at h | rwa [if_neg e4_0, if_neg e4_1, if_pos e4_2, if_pos b50] at h | rwa [if_neg e4_0, if_neg e4_1, if_pos e4_2, if_neg b50] at h | rwa [if_neg e4_0, if_neg e4_1, if_neg e4_2, if_pos e4_3] at h | rwa [if_neg e4_0, if_neg e4_1, if_neg e4_2, if_neg e4_3] at h
  by_cases e4_2 : kd = 4
  · refine r_tableIn (off := 45) (tgt := 49) dX4_farOfKind_4 (by rw [e4_2]; decide) (by rw [e4_2]; decide) (by rw [e4_2]; rfl) (by decide) ?_
    refine r_iload_n dX4_farOfKind_49 rfl ?_
    refine r_if_ne (tgt := 57) dX4_farOfKind_50 (by decide) (fun b50 => ?_) (fun b50 => ?_)
    · refine r_iload_n dX4_farOfKind_57 rfl ?_
      refine r_aload_n dX4_farOfKind_58 rfl ?_
      refine r_getR dX4_farOfKind_59 fl_X4_9 (ly_5 hE) rfl ?_
      refine r_iconst (v := (nI 2)) dX4_farOfKind_62 rfl ?_
      refine r_ialdN dX4_farOfKind_63 (ly_26 hE) (by decide) (by decide) ?_
      refine r_rw (y := nr) hn ?_
      refine r_isub dX4_farOfKind_64 ?_
      refine r_ireturn dX4_farOfKind_65 rfl rfl ?_
      unfold fkF at h
      first | rwa [if_pos e4_0] at h | rwa [if_neg e4_0, if_pos e4_1] at h | rwa [if_neg e4_0, if_neg e4_1, if_pos e4_2, if_pos b50] at h | rwa [if_neg e4_0, if_neg e4_1, if_pos e4_2, if_neg b50] at h | rwa [if_neg e4_0, if_neg e4_1, if_neg e4_2, if_pos e4_3] at h | rwa [if_neg e4_0, if_neg e4_1, if_neg e4_2, if_neg e4_3] at h
    · refine r_iconst (v := 0) dX4_farOfKind_53 rfl ?_
      refine r_goto (tgt := 65) dX4_farOfKind_54 (by decide) ?_
      refine r_ireturn dX4_farOfKind_65 rfl rfl ?_
      unfold fkF at h
      first | rwa [if_pos e4_0] at h | rwa [if_neg e4_0, if_pos e4_1] at h | rwa [if_neg e4_0, if_neg e4_1, if_pos e4_2, if_pos b50] at h | rwa [if_neg e4_0, if_neg e4_1, if_pos e4_2, if_neg b50] at h | rwa [if_neg e4_0, if_neg e4_1, if_neg e4_2, if_pos e4_3] at h | rwa [if_neg e4_0, if_neg e4_1, if_neg e4_2, if_neg e4_3] at h
  by_cases e4_3 : kd = 5
  · refine r_tableIn (off := 62) (tgt := 66) dX4_farOfKind_4 (by rw [e4_3]; decide) (by rw [e4_3]; decide) (by rw [e4_3]; rfl) (by decide) ?_
    refine r_iconst (v := 4) dX4_farOfKind_66 rfl ?_
    refine r_aload_n dX4_farOfKind_67 rfl ?_
    refine r_getR dX4_farOfKind_68 fl_X4_9 (ly_5 hE) rfl ?_
    refine r_iconst (v := (nI 2)) dX4_farOfKind_71 rfl ?_
    refine r_ialdN dX4_farOfKind_72 (ly_26 hE) (by decide) (by decide) ?_
    refine r_rw (y := nr) hn ?_
    refine r_imul dX4_farOfKind_73 ?_
    refine r_ireturn dX4_farOfKind_74 rfl rfl ?_
    unfold fkF at h
    first | rwa [if_pos e4_0] at h | rwa [if_neg e4_0, if_pos e4_1] at h | rwa [if_neg e4_0, if_neg e4_1, if_pos e4_2, if_pos b50] at h | rwa [if_neg e4_0, if_neg e4_1, if_pos e4_2, if_neg b50] at h | rwa [if_neg e4_0, if_neg e4_1, if_neg e4_2, if_pos e4_3] at h | rwa [if_neg e4_0, if_neg e4_1, if_neg e4_2, if_neg e4_3] at h
  refine r_tableOut (tgt := 75) dX4_farOfKind_4 (sw_2_5 e4_0 e4_1 e4_2 e4_3) (by decide) ?_
  refine r_iload_n dX4_farOfKind_75 rfl ?_
  refine r_ireturn dX4_farOfKind_76 rfl rfl ?_
  unfold fkF at h
  first | rwa [if_pos e4_0] at h | rwa [if_neg e4_0, if_pos e4_1] at h | rwa [if_neg e4_0, if_neg e4_1, if_pos e4_2, if_pos b50] at h | rwa [if_neg e4_0, if_neg e4_1, if_pos e4_2, if_neg b50] at h | rwa [if_neg e4_0, if_neg e4_1, if_neg e4_2, if_pos e4_3] at h | rwa [if_neg e4_0, if_neg e4_1, if_neg e4_2, if_neg e4_3] at h
set_option maxRecDepth 100000 in
set_option maxHeartbeats 4000000 in
theorem sp_X4_coolsOfKind (hE : hC E) {v a : Int32} (hk : A 5 3 = kd) (h : Ph (some (.int (ckF kd v a))) A L) : qC E mm_X4_coolsOfKind d [.ref 5, .int v, .int a] A L Ph := by
  refine qC.enter (by decide) (Nat.le_of_ble_eq_true rfl) ?_
  refine r_aload_n dX4_coolsOfKind_0 rfl ?_
  refine r_getI dX4_coolsOfKind_1 fl_X4_33 (ly_5 hE) rfl ?_
  refine r_rw (y := kd) hk ?_
  by_cases e4_0 : kd = 1
  · refine r_tableIn (off := 32) (tgt := 36) dX4_coolsOfKind_4 (by rw [e4_0]; decide) (by rw [e4_0]; decide) (by rw [e4_0]; rfl) (by decide) ?_
    refine r_iload_n dX4_coolsOfKind_36 rfl ?_
    refine r_iconst (v := 1) dX4_coolsOfKind_37 rfl ?_
    refine r_isub dX4_coolsOfKind_38 ?_
    refine r_ireturn dX4_coolsOfKind_39 rfl rfl ?_
    unfold ckF at h
    first | rwa [if_pos e4_0] at h | rwa [if_neg e4_0, if_pos e4_1] at h | rwa [if_neg e4_0, if_neg e4_1, if_pos e4_2, if_pos b47] at h | rwa [if_neg e4_0, if_neg e4_1, if_pos e4_2, if_neg b47] at h | rwa [if_neg e4_0, if_neg e4_1, if_neg e4_2, if_pos e4_3] at h | rwa [if_neg e4_0, if_neg e4_1, if_neg e4_2, if_neg e4_3] at h
  by_cases e4_1 : kd = 2
  · refine r_tableIn (off := 36) (tgt := 40) dX4_coolsOfKind_4 (by rw [e4_1]; decide) (by rw [e4_1]; decide) (by rw [e4_1]; rfl) (by decide) ?_
    refine r_iload_n dX4_coolsOfKind_40 rfl ?_
    refine r_iconst (v := 3) dX4_coolsOfKind_41 rfl ?_
    refine r_iadd dX4_coolsOfKind_42 ?_
    refine r_ireturn dX4_coolsOfKind_43 rfl rfl ?_
    unfold ckF at h
    first | rwa [if_pos e4_0] at h | rwa [if_neg e4_0, if_pos e4_1] at h | rwa [if_neg e4_0, if_neg e4_1, if_pos e4_2, if_pos b47] at h | rwa [if_neg e4_0, if_neg e4_1, if_pos e4_2, if_neg b47] at h | rwa [if_neg e4_0, if_neg e4_1, if_neg e4_2, if_pos e4_3] at h | rwa [if_neg e4_0, if_neg e4_1, if_neg e4_2, if_neg e4_3] at h
  by_cases e4_2 : kd = 3
  · refine r_tableIn (off := 40) (tgt := 44) dX4_coolsOfKind_4 (by rw [e4_2]; decide) (by rw [e4_2]; decide) (by rw [e4_2]; rfl) (by decide) ?_
    refine r_iload_n dX4_coolsOfKind_44 rfl ?_
    refine r_bipush (v := 50) dX4_coolsOfKind_45 rfl ?_
    refine r_icmp_le (tgt := 54) dX4_coolsOfKind_47 (by decide) (fun b47 => ?_) (fun b47 => ?_)
    · refine r_iload_n dX4_coolsOfKind_54 rfl ?_
      refine r_iconst (v := 1) dX4_coolsOfKind_55 rfl ?_
      refine r_isub dX4_coolsOfKind_56 ?_
      refine r_ireturn dX4_coolsOfKind_57 rfl rfl ?_
      unfold ckF at h
      first | rwa [if_pos e4_0] at h | rwa [if_neg e4_0, if_pos e4_1] at h | rwa [if_neg e4_0, if_neg e4_1, if_pos e4_2, if_pos b47] at h | rwa [if_neg e4_0, if_neg e4_1, if_pos e4_2, if_neg b47] at h | rwa [if_neg e4_0, if_neg e4_1, if_neg e4_2, if_pos e4_3] at h | rwa [if_neg e4_0, if_neg e4_1, if_neg e4_2, if_neg e4_3] at h
    · refine r_iconst (v := 0) dX4_coolsOfKind_50 rfl ?_
      refine r_goto (tgt := 57) dX4_coolsOfKind_51 (by decide) ?_
      refine r_ireturn dX4_coolsOfKind_57 rfl rfl ?_
      unfold ckF at h
      first | rwa [if_pos e4_0] at h | rwa [if_neg e4_0, if_pos e4_1] at h | rwa [if_neg e4_0, if_neg e4_1, if_pos e4_2, if_pos b47] at h | rwa [if_neg e4_0, if_neg e4_1, if_pos e4_2, if_neg b47] at h | rwa [if_neg e4_0, if_neg e4_1, if_neg e4_2, if_pos e4_3] at h | rwa [if_neg e4_0, if_neg e4_1, if_neg e4_2, if_neg e4_3] at h
  by_cases e4_3 : kd = 4
  · refine r_tableIn (off := 54) (tgt := 58) dX4_coolsOfKind_4 (by rw [e4_3]; decide) (by rw [e4_3]; decide) (by rw [e4_3]; rfl) (by decide) ?_
    refine r_iconst (v := 2) dX4_coolsOfKind_58 rfl ?_
    refine r_iload_n dX4_coolsOfKind_59 rfl ?_
    refine r_iconst (v := 3) dX4_coolsOfKind_60 rfl ?_
    refine r_iadd dX4_coolsOfKind_61 ?_
    refine r_imul dX4_coolsOfKind_62 ?_
    refine r_ireturn dX4_coolsOfKind_63 rfl rfl ?_
    unfold ckF at h
    first | rwa [if_pos e4_0] at h | rwa [if_neg e4_0, if_pos e4_1] at h | rwa [if_neg e4_0, if_neg e4_1, if_pos e4_2, if_pos b47] at h | rwa [if_neg e4_0, if_neg e4_1, if_pos e4_2, if_neg b47] at h | rwa [if_neg e4_0, if_neg e4_1, if_neg e4_2, if_pos e4_3] at h | rwa [if_neg e4_0, if_neg e4_1, if_neg e4_2, if_neg e4_3] at h
  refine r_tableOut (tgt := 64) dX4_coolsOfKind_4 (sw_1_4 e4_0 e4_1 e4_2 e4_3) (by decide) ?_
  refine r_iload_n dX4_coolsOfKind_64 rfl ?_
  refine r_ireturn dX4_coolsOfKind_65 rfl rfl ?_
  unfold ckF at h
  first | rwa [if_pos e4_0] at h | rwa [if_neg e4_0, if_pos e4_1] at h | rwa [if_neg e4_0, if_neg e4_1, if_pos e4_2, if_pos b47] at h | rwa [if_neg e4_0, if_neg e4_1, if_pos e4_2, if_neg b47] at h | rwa [if_neg e4_0, if_neg e4_1, if_neg e4_2, if_pos e4_3] at h | rwa [if_neg e4_0, if_neg e4_1, if_neg e4_2, if_neg e4_3] at h
set_option maxRecDepth 100000 in
set_option maxHeartbeats 4000000 in
theorem sp_X4_heatsOfWed (hE : hC E) {v x : Int32} (hn : A 26 2 = nr) (h : Ph (some (.int (wdV nr x v))) A L) : qC E mm_X4_heatsOfWed d [.ref 5, .int v, .int x] A L Ph := by
  refine qC.enter (by decide) (Nat.le_of_ble_eq_true rfl) ?_
  refine r_iload_n dX4_heatsOfWed_0 rfl ?_
  refine r_aload_n dX4_heatsOfWed_1 rfl ?_
  refine r_getR dX4_heatsOfWed_2 fl_X4_9 (ly_5 hE) rfl ?_
  refine r_iconst (v := (nI 2)) dX4_heatsOfWed_5 rfl ?_
  refine r_ialdN dX4_heatsOfWed_6 (ly_26 hE) (by decide) (by decide) ?_
  refine r_rw (y := nr) hn ?_
  refine r_bipush (v := 6) dX4_heatsOfWed_7 rfl ?_
  refine r_irem dX4_heatsOfWed_9 (by decide) ?_
  refine r_icmp_ne (tgt := 19) dX4_heatsOfWed_10 (by decide) (fun b10 => ?_) (fun b10 => ?_)
  · refine r_iload_n dX4_heatsOfWed_19 rfl ?_
    refine r_ireturn dX4_heatsOfWed_20 rfl rfl ?_
    unfold wdV at h
    first | rwa [if_pos b10] at h | rwa [if_neg b10] at h
  · refine r_iconst (v := 2) dX4_heatsOfWed_13 rfl ?_
    refine r_iload_n dX4_heatsOfWed_14 rfl ?_
    refine r_imul dX4_heatsOfWed_15 ?_
    refine r_goto (tgt := 20) dX4_heatsOfWed_16 (by decide) ?_
    refine r_ireturn dX4_heatsOfWed_20 rfl rfl ?_
    unfold wdV at h
    first | rwa [if_pos b10] at h | rwa [if_neg b10] at h
set_option maxRecDepth 100000 in
set_option maxHeartbeats 4000000 in
theorem sp_X4_heatsOfKind (hE : hC E) {v a x : Int32} (hk : A 5 3 = kd) (hn : A 26 2 = nr) (h : Ph (some (.int (hkF kd nr v a x))) A L) : qC E mm_X4_heatsOfKind (d + 1) [.ref 5, .int v, .int a, .int x] A L Ph := by
  refine qC.enter (by decide) (Nat.le_of_ble_eq_true rfl) ?_
  refine r_aload_n dX4_heatsOfKind_0 rfl ?_
  refine r_getI dX4_heatsOfKind_1 fl_X4_33 (ly_5 hE) rfl ?_
  refine r_rw (y := kd) hk ?_
  by_cases e4_0 : kd = 1
  · refine r_tableIn (off := 36) (tgt := 40) dX4_heatsOfKind_4 (by rw [e4_0]; decide) (by rw [e4_0]; decide) (by rw [e4_0]; rfl) (by decide) ?_
    refine r_aload_n dX4_heatsOfKind_40 rfl ?_
    refine r_iload_n dX4_heatsOfKind_41 rfl ?_
    refine r_iload_n dX4_heatsOfKind_42 rfl ?_
    refine r_callV2 dX4_heatsOfKind_43 lk_X4_82 (ly_5 hE) rfl (Nat.le_of_ble_eq_true rfl) (sp_X4_heatsOfWed hE hn ?_)
    refine r_ireturn dX4_heatsOfKind_46 rfl rfl ?_
    unfold hkF at h
    first | rwa [if_pos e4_0] at h | rwa [if_neg e4_0, if_pos e4_1] at h | rwa [if_neg e4_0, if_neg e4_1, if_pos e4_2] at h | rwa [if_neg e4_0, if_neg e4_1, if_neg e4_2, if_pos e4_3, if_neg (by simp only [i_lt, i_le] at *; omega)] at h | rwa [if_neg e4_0, if_neg e4_1, if_neg e4_2, if_pos e4_3, if_pos (by simp only [i_lt, i_le] at *; omega)] at h | rwa [if_neg e4_0, if_neg e4_1, if_neg e4_2, if_neg e4_3, if_pos e4_4] at h | rwa [if_neg e4_0, if_neg e4_1, if_neg e4_2, if_neg e4_3, if_neg e4_4] at h
  by_cases e4_1 : kd = 2
  · refine r_tableIn (off := 43) (tgt := 47) dX4_heatsOfKind_4 (by rw [e4_1]; decide) (by rw [e4_1]; decide) (by rw [e4_1]; rfl) (by decide) ?_
    refine r_iload_n dX4_heatsOfKind_47 rfl ?_
    refine r_iconst (v := 2) dX4_heatsOfKind_48 rfl ?_
    refine r_idiv dX4_heatsOfKind_49 (by decide) ?_
    refine r_ireturn dX4_heatsOfKind_50 rfl rfl ?_
    unfold hkF at h
    first | rwa [if_pos e4_0] at h | rwa [if_neg e4_0, if_pos e4_1] at h | rwa [if_neg e4_0, if_neg e4_1, if_pos e4_2] at h | rwa [if_neg e4_0, if_neg e4_1, if_neg e4_2, if_pos e4_3, if_neg (by simp only [i_lt, i_le] at *; omega)] at h | rwa [if_neg e4_0, if_neg e4_1, if_neg e4_2, if_pos e4_3, if_pos (by simp only [i_lt, i_le] at *; omega)] at h | rwa [if_neg e4_0, if_neg e4_1, if_neg e4_2, if_neg e4_3, if_pos e4_4] at h | rwa [if_neg e4_0, if_neg e4_1, if_neg e4_2, if_neg e4_3, if_neg e4_4] at h
  by_cases e4_2 : kd = 3
  · refine r_tableIn (off := 47) (tgt := 51) dX4_heatsOfKind_4 (by rw [e4_2]; decide) (by rw [e4_2]; decide) (by rw [e4_2]; rfl) (by decide) ?_
    refine r_iconst (v := 0) dX4_heatsOfKind_51 rfl ?_
    refine r_aload_n dX4_heatsOfKind_52 rfl ?_
    refine r_iload_n dX4_heatsOfKind_53 rfl ?_
    refine r_iload_n dX4_heatsOfKind_54 rfl ?_
    refine r_callV2 dX4_heatsOfKind_55 lk_X4_82 (ly_5 hE) rfl (Nat.le_of_ble_eq_true rfl) (sp_X4_heatsOfWed hE hn ?_)
    refine r_mmax dX4_heatsOfKind_58 lmx_X4_85 (Nat.le_of_ble_eq_true rfl) ?_
    refine r_ireturn dX4_heatsOfKind_61 rfl rfl ?_
    unfold hkF at h
    first | rwa [if_pos e4_0] at h | rwa [if_neg e4_0, if_pos e4_1] at h | rwa [if_neg e4_0, if_neg e4_1, if_pos e4_2] at h | rwa [if_neg e4_0, if_neg e4_1, if_neg e4_2, if_pos e4_3, if_neg (by simp only [i_lt, i_le] at *; omega)] at h | rwa [if_neg e4_0, if_neg e4_1, if_neg e4_2, if_pos e4_3, if_pos (by simp only [i_lt, i_le] at *; omega)] at h | rwa [if_neg e4_0, if_neg e4_1, if_neg e4_2, if_neg e4_3, if_pos e4_4] at h | rwa [if_neg e4_0, if_neg e4_1, if_neg e4_2, if_neg e4_3, if_neg e4_4] at h
  by_cases e4_3 : kd = 4
  · refine r_tableIn (off := 58) (tgt := 62) dX4_heatsOfKind_4 (by rw [e4_3]; decide) (by rw [e4_3]; decide) (by rw [e4_3]; rfl) (by decide) ?_
    refine r_iload_n dX4_heatsOfKind_62 rfl ?_
    refine r_bipush (v := 20) dX4_heatsOfKind_63 rfl ?_
    refine r_icmp_ge (tgt := 73) dX4_heatsOfKind_65 (by decide) (fun b65 => ?_) (fun b65 => ?_)
    · refine r_iload_n dX4_heatsOfKind_73 rfl ?_
      refine r_iconst (v := 2) dX4_heatsOfKind_74 rfl ?_
      refine r_idiv dX4_heatsOfKind_75 (by decide) ?_
      refine r_ireturn dX4_heatsOfKind_76 rfl rfl ?_
      unfold hkF at h
      first | rwa [if_pos e4_0] at h | rwa [if_neg e4_0, if_pos e4_1] at h | rwa [if_neg e4_0, if_neg e4_1, if_pos e4_2] at h | rwa [if_neg e4_0, if_neg e4_1, if_neg e4_2, if_pos e4_3, if_neg (by simp only [i_lt, i_le] at *; omega)] at h | rwa [if_neg e4_0, if_neg e4_1, if_neg e4_2, if_pos e4_3, if_pos (by simp only [i_lt, i_le] at *; omega)] at h | rwa [if_neg e4_0, if_neg e4_1, if_neg e4_2, if_neg e4_3, if_pos e4_4] at h | rwa [if_neg e4_0, if_neg e4_1, if_neg e4_2, if_neg e4_3, if_neg e4_4] at h
    · refine r_bipush (v := (-10)) dX4_heatsOfKind_68 rfl ?_
      refine r_goto (tgt := 76) dX4_heatsOfKind_70 (by decide) ?_
      refine r_ireturn dX4_heatsOfKind_76 rfl rfl ?_
      unfold hkF at h
      first | rwa [if_pos e4_0] at h | rwa [if_neg e4_0, if_pos e4_1] at h | rwa [if_neg e4_0, if_neg e4_1, if_pos e4_2] at h | rwa [if_neg e4_0, if_neg e4_1, if_neg e4_2, if_pos e4_3, if_neg (by simp only [i_lt, i_le] at *; omega)] at h | rwa [if_neg e4_0, if_neg e4_1, if_neg e4_2, if_pos e4_3, if_pos (by simp only [i_lt, i_le] at *; omega)] at h | rwa [if_neg e4_0, if_neg e4_1, if_neg e4_2, if_neg e4_3, if_pos e4_4] at h | rwa [if_neg e4_0, if_neg e4_1, if_neg e4_2, if_neg e4_3, if_neg e4_4] at h
  by_cases e4_4 : kd = 5
  · refine r_tableIn (off := 73) (tgt := 77) dX4_heatsOfKind_4 (by rw [e4_4]; decide) (by rw [e4_4]; decide) (by rw [e4_4]; rfl) (by decide) ?_
    refine r_iconst (v := 0) dX4_heatsOfKind_77 rfl ?_
    refine r_ireturn dX4_heatsOfKind_78 rfl rfl ?_
    unfold hkF at h
    first | rwa [if_pos e4_0] at h | rwa [if_neg e4_0, if_pos e4_1] at h | rwa [if_neg e4_0, if_neg e4_1, if_pos e4_2] at h | rwa [if_neg e4_0, if_neg e4_1, if_neg e4_2, if_pos e4_3, if_neg (by simp only [i_lt, i_le] at *; omega)] at h | rwa [if_neg e4_0, if_neg e4_1, if_neg e4_2, if_pos e4_3, if_pos (by simp only [i_lt, i_le] at *; omega)] at h | rwa [if_neg e4_0, if_neg e4_1, if_neg e4_2, if_neg e4_3, if_pos e4_4] at h | rwa [if_neg e4_0, if_neg e4_1, if_neg e4_2, if_neg e4_3, if_neg e4_4] at h
  refine r_tableOut (tgt := 79) dX4_heatsOfKind_4 (sw_1_5 e4_0 e4_1 e4_2 e4_3 e4_4) (by decide) ?_
  refine r_iload_n dX4_heatsOfKind_79 rfl ?_
  refine r_ireturn dX4_heatsOfKind_80 rfl rfl ?_
  unfold hkF at h
  first | rwa [if_pos e4_0] at h | rwa [if_neg e4_0, if_pos e4_1] at h | rwa [if_neg e4_0, if_neg e4_1, if_pos e4_2] at h | rwa [if_neg e4_0, if_neg e4_1, if_neg e4_2, if_pos e4_3, if_neg (by simp only [i_lt, i_le] at *; omega)] at h | rwa [if_neg e4_0, if_neg e4_1, if_neg e4_2, if_pos e4_3, if_pos (by simp only [i_lt, i_le] at *; omega)] at h | rwa [if_neg e4_0, if_neg e4_1, if_neg e4_2, if_neg e4_3, if_pos e4_4] at h | rwa [if_neg e4_0, if_neg e4_1, if_neg e4_2, if_neg e4_3, if_neg e4_4] at h
set_option maxRecDepth 100000 in
set_option maxHeartbeats 4000000 in
theorem sp_X4_far (hc : CE E A S T r kd nr) {a : Int32} (h : ∀ A', FrT A A' → Ph (some (.int (farF S r kd nr a))) A' L) : qC E mm_X4_far (d + 2) [.ref 5, .int a] A L Ph := by
  refine qC.enter (by decide) (Nat.le_of_ble_eq_true rfl) ?_
  obtain ⟨hE, hR, hr, hT, he, ⟨t1, t2, t3, t4, t5, t6⟩, hq⟩ := id hc
  refine r_aload_n dX4_far_0 rfl ?_
  refine r_getR dX4_far_1 fl_X4_9 (ly_5 hE) rfl ?_
  refine r_iconst (v := (nI 1)) dX4_far_4 rfl ?_
  refine r_iload_n dX4_far_5 rfl ?_
  refine r_iastN dX4_far_6 (ly_26 hE) (by decide) (by decide) ?_
  refine r_aload_n dX4_far_7 rfl ?_
  refine r_getR dX4_far_8 fl_X4_9 (ly_5 hE) rfl ?_
  refine r_iconst (v := (nI 0)) dX4_far_11 rfl ?_
  refine r_iconst (v := 0) dX4_far_12 rfl ?_
  refine r_iastN dX4_far_13 (ly_26 hE) (by decide) (by decide) ?_
  refine r_aload_n dX4_far_14 rfl ?_
  refine r_getR dX4_far_15 fl_X4_15 (ly_5 hE) rfl ?_
  refine r_aload_n dX4_far_18 rfl ?_
  refine r_getI dX4_far_19 fl_X4_29 (ly_5 hE) rfl ?_
  refine r_rw (y := nI r) (by rw [s2_ne (by decide), s2_ne (by decide)]; exact t1) ?_
  refine r_iconst (v := 2) dX4_far_22 rfl ?_
  refine r_aload_n dX4_far_23 rfl ?_
  refine r_getR dX4_far_24 fl_X4_9 (ly_5 hE) rfl ?_
  refine r_callV3 dX4_far_27 lk_X4_55 (ly_3 hE) rfl (Nat.le_of_ble_eq_true rfl) (sp_worth hc 2 (by decide) (fun A1 f1 => ?_))
  refine r_iconst (v := 0) dX4_far_30 rfl ?_
  refine r_bipush (v := 40) dX4_far_31 rfl ?_
  refine r_callN3 dX4_far_33 lk_X4_61 (Nat.le_of_ble_eq_true rfl) (sp_X6_bounded (by decide) ?_)
  refine r_topi (fun v36 e36 => ?_)
  refine r_istore_n (loc' := [(2, .int v36), (0, .ref 5), (1, .int a)]) dX4_far_36 (by decide) rfl ?_
  refine r_aload_n dX4_far_37 rfl ?_
  refine r_iload_n dX4_far_38 rfl ?_
  refine r_iload_n dX4_far_39 rfl ?_
  refine r_callV2 dX4_far_40 lk_X4_72 (ly_5 hE) rfl (Nat.le_of_ble_eq_true rfl) (sp_X4_farOfKind (kd := kd) (nr := nr) hE (by rw [f1.1 5 (by decide)]; exact t2) (by rw [f1.2 2 (by decide)]; exact t3) ?_)
  refine r_iconst (v := 0) dX4_far_43 rfl ?_
  refine r_bipush (v := 40) dX4_far_44 rfl ?_
  refine r_callN3 dX4_far_46 lk_X4_61 (Nat.le_of_ble_eq_true rfl) (sp_X6_bounded (by decide) ?_)
  refine r_ireturn dX4_far_49 rfl rfl ?_
  have K := h A1 f1
  rw [← farK S r kd a hq] at K
  subst e36
  exact K
set_option maxRecDepth 100000 in
set_option maxHeartbeats 4000000 in
theorem sp_X4_cools (hc : CE E A S T r kd nr) {a : Int32} (h : ∀ A', FrT A A' → Ph (some (.int (coolF S r kd nr a))) A' L) : qC E mm_X4_cools (d + 2) [.ref 5, .int a] A L Ph := by
  refine qC.enter (by decide) (Nat.le_of_ble_eq_true rfl) ?_
  obtain ⟨hE, hR, hr, hT, he, ⟨t1, t2, t3, t4, t5, t6⟩, hq⟩ := id hc
  refine r_aload_n dX4_cools_0 rfl ?_
  refine r_getR dX4_cools_1 fl_X4_9 (ly_5 hE) rfl ?_
  refine r_iconst (v := (nI 1)) dX4_cools_4 rfl ?_
  refine r_iload_n dX4_cools_5 rfl ?_
  refine r_iastN dX4_cools_6 (ly_26 hE) (by decide) (by decide) ?_
  refine r_aload_n dX4_cools_7 rfl ?_
  refine r_getR dX4_cools_8 fl_X4_9 (ly_5 hE) rfl ?_
  refine r_iconst (v := (nI 0)) dX4_cools_11 rfl ?_
  refine r_iconst (v := 0) dX4_cools_12 rfl ?_
  refine r_iastN dX4_cools_13 (ly_26 hE) (by decide) (by decide) ?_
  refine r_aload_n dX4_cools_14 rfl ?_
  refine r_getR dX4_cools_15 fl_X4_15 (ly_5 hE) rfl ?_
  refine r_aload_n dX4_cools_18 rfl ?_
  refine r_getI dX4_cools_19 fl_X4_29 (ly_5 hE) rfl ?_
  refine r_rw (y := nI r) (by rw [s2_ne (by decide), s2_ne (by decide)]; exact t1) ?_
  refine r_iconst (v := 1) dX4_cools_22 rfl ?_
  refine r_aload_n dX4_cools_23 rfl ?_
  refine r_getR dX4_cools_24 fl_X4_9 (ly_5 hE) rfl ?_
  refine r_callV3 dX4_cools_27 lk_X4_55 (ly_3 hE) rfl (Nat.le_of_ble_eq_true rfl) (sp_worth hc 1 (by decide) (fun A1 f1 => ?_))
  refine r_iconst (v := 0) dX4_cools_30 rfl ?_
  refine r_bipush (v := 99) dX4_cools_31 rfl ?_
  refine r_callN3 dX4_cools_33 lk_X4_61 (Nat.le_of_ble_eq_true rfl) (sp_X6_bounded (by decide) ?_)
  refine r_topi (fun v36 e36 => ?_)
  refine r_istore_n (loc' := [(2, .int v36), (0, .ref 5), (1, .int a)]) dX4_cools_36 (by decide) rfl ?_
  refine r_aload_n dX4_cools_37 rfl ?_
  refine r_iload_n dX4_cools_38 rfl ?_
  refine r_iload_n dX4_cools_39 rfl ?_
  refine r_callV2 dX4_cools_40 lk_X4_68 (ly_5 hE) rfl (Nat.le_of_ble_eq_true rfl) (sp_X4_coolsOfKind (kd := kd) hE (by rw [f1.1 5 (by decide)]; exact t2) ?_)
  refine r_iconst (v := 0) dX4_cools_43 rfl ?_
  refine r_bipush (v := 99) dX4_cools_44 rfl ?_
  refine r_callN3 dX4_cools_46 lk_X4_61 (Nat.le_of_ble_eq_true rfl) (sp_X6_bounded (by decide) ?_)
  refine r_ireturn dX4_cools_49 rfl rfl ?_
  have K := h A1 f1
  rw [← coolK] at K
  subst e36
  exact K
set_option maxRecDepth 100000 in
set_option maxHeartbeats 4000000 in
theorem sp_X4_heats (hc : CE E A S T r kd nr) {a : Int32} {wd : Int32} (h : ∀ A', FrT A A' → Ph (some (.int (heatF S r kd nr a wd))) A' L) : qC E mm_X4_heats (d + 2) [.ref 5, .int a, .int wd] A L Ph := by
  refine qC.enter (by decide) (Nat.le_of_ble_eq_true rfl) ?_
  obtain ⟨hE, hR, hr, hT, he, ⟨t1, t2, t3, t4, t5, t6⟩, hq⟩ := id hc
  refine r_aload_n dX4_heats_0 rfl ?_
  refine r_getR dX4_heats_1 fl_X4_9 (ly_5 hE) rfl ?_
  refine r_iconst (v := (nI 1)) dX4_heats_4 rfl ?_
  refine r_iload_n dX4_heats_5 rfl ?_
  refine r_iastN dX4_heats_6 (ly_26 hE) (by decide) (by decide) ?_
  refine r_aload_n dX4_heats_7 rfl ?_
  refine r_getR dX4_heats_8 fl_X4_9 (ly_5 hE) rfl ?_
  refine r_iconst (v := (nI 0)) dX4_heats_11 rfl ?_
  refine r_iload_n dX4_heats_12 rfl ?_
  refine r_iastN dX4_heats_13 (ly_26 hE) (by decide) (by decide) ?_
  refine r_aload_n dX4_heats_14 rfl ?_
  refine r_getR dX4_heats_15 fl_X4_15 (ly_5 hE) rfl ?_
  refine r_aload_n dX4_heats_18 rfl ?_
  refine r_getI dX4_heats_19 fl_X4_29 (ly_5 hE) rfl ?_
  refine r_rw (y := nI r) (by rw [s2_ne (by decide), s2_ne (by decide)]; exact t1) ?_
  refine r_iconst (v := 0) dX4_heats_22 rfl ?_
  refine r_aload_n dX4_heats_23 rfl ?_
  refine r_getR dX4_heats_24 fl_X4_9 (ly_5 hE) rfl ?_
  refine r_callV3 dX4_heats_27 lk_X4_55 (ly_3 hE) rfl (Nat.le_of_ble_eq_true rfl) (sp_worth hc 0 (by decide) (fun A1 f1 => ?_))
  refine r_bipush (v := (-99)) dX4_heats_30 rfl ?_
  refine r_bipush (v := 99) dX4_heats_32 rfl ?_
  refine r_callN3 dX4_heats_34 lk_X4_61 (Nat.le_of_ble_eq_true rfl) (sp_X6_bounded (by decide) ?_)
  refine r_topi (fun v37 e37 => ?_)
  refine r_istore_n (loc' := [(3, .int v37), (0, .ref 5), (1, .int a), (2, .int wd)]) dX4_heats_37 (by decide) rfl ?_
  refine r_aload_n dX4_heats_38 rfl ?_
  refine r_iload_n dX4_heats_39 rfl ?_
  refine r_iload_n dX4_heats_40 rfl ?_
  refine r_iload_n dX4_heats_41 rfl ?_
  refine r_callV3 dX4_heats_42 lk_X4_65 (ly_5 hE) rfl (Nat.le_of_ble_eq_true rfl) (sp_X4_heatsOfKind (kd := kd) (nr := nr) hE (by rw [f1.1 5 (by decide)]; exact t2) (by rw [f1.2 2 (by decide)]; exact t3) ?_)
  refine r_bipush (v := (-99)) dX4_heats_45 rfl ?_
  refine r_bipush (v := 99) dX4_heats_47 rfl ?_
  refine r_callN3 dX4_heats_49 lk_X4_61 (Nat.le_of_ble_eq_true rfl) (sp_X6_bounded (by decide) ?_)
  refine r_ireturn dX4_heats_52 rfl rfl ?_
  have K := h A1 f1
  rw [← heatK] at K
  subst e37
  exact K
theorem sp_X4_heated (hc : CE E A S T r kd nr) {a wd : Int32} (h : ∀ A', FrT A A' → Ph (some (.int (bwF S r kd nr a wd))) A' L) : qC E mm_X4_heated (d + 3) [.ref 5, .int a, .int wd] A L Ph := by
  refine qC.enter (by decide) (Nat.le_of_ble_eq_true rfl) ?_
  have hE := hc.1
  refine r_iload_n dX4_heated_0 rfl ?_
  refine r_aload_n dX4_heated_1 rfl ?_
  refine r_iload_n dX4_heated_2 rfl ?_
  refine r_iload_n dX4_heated_3 rfl ?_
  refine r_callV2 dX4_heated_4 lk_X4_75 (ly_5 hE) rfl (Nat.le_of_ble_eq_true rfl) (sp_X4_heats hc (fun A1 f1 => ?_))
  refine r_iadd dX4_heated_7 ?_
  refine r_iconst (v := 0) dX4_heated_8 rfl ?_
  refine r_bipush (v := 99) dX4_heated_9 rfl ?_
  refine r_callN3 dX4_heated_11 lk_X4_61 (Nat.le_of_ble_eq_true rfl) (sp_X6_bounded (by decide) ?_)
  refine r_ireturn dX4_heated_14 rfl rfl ?_
  exact h A1 f1
theorem sp_X4_cooled (hc : CE E A S T r kd nr) {a : Int32} (h : ∀ A', FrT A A' → Ph (some (.int (bmF S r kd nr a))) A' L) : qC E mm_X4_cooled (d + 3) [.ref 5, .int a] A L Ph := by
  refine qC.enter (by decide) (Nat.le_of_ble_eq_true rfl) ?_
  have hE := hc.1
  refine r_iload_n dX4_cooled_0 rfl ?_
  refine r_aload_n dX4_cooled_1 rfl ?_
  refine r_iload_n dX4_cooled_2 rfl ?_
  refine r_callV1 dX4_cooled_3 lk_X4_78 (ly_5 hE) rfl (Nat.le_of_ble_eq_true rfl) (sp_X4_cools hc (fun A1 f1 => ?_))
  refine r_isub dX4_cooled_6 ?_
  refine r_iconst (v := 0) dX4_cooled_7 rfl ?_
  refine r_bipush (v := 99) dX4_cooled_8 rfl ?_
  refine r_callN3 dX4_cooled_10 lk_X4_61 (Nat.le_of_ble_eq_true rfl) (sp_X6_bounded (by decide) ?_)
  refine r_ireturn dX4_cooled_13 rfl rfl ?_
  exact h A1 f1
end CEVAL
