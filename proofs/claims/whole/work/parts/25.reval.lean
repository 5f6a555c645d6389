/-! the reference: what a pair that is taken does -/
section REVAL
variable {E : mE} {d : Nat} {A S : mA} {L : mJ} {Ph : mP} {T r : Nat} {kd nr : Int32}
def ME (E : mE) (A S : mA) (T r : Nat) (kd nr : Int32) : Prop := hM E ∧ RM A S T ∧ r < T ∧ T ≤ 6 ∧ (∃ e, TXv S r e) ∧ MT A S r kd nr
theorem ME.fr {A' : mA} {X : List Nat} (h : ME E A S T r kd nr) (hf : Fr X A A') (hX : ∀ k, k ∈ X → k ∈ xM) : ME E A' S T r kd nr := by
  obtain ⟨h1, h2, h3, h4, h5, h6⟩ := h
  refine ⟨h1, h2.fr hf hX, h3, h4, h5, ?_⟩
  have e : A' 38 = A 38 := hf 38 (fun z => absurd (hX _ z) (by decide))
  unfold MT at *
  rw [e]
  exact h6
theorem sp_tell (hm : ME E A S T r kd nr) (p : Nat) (hp : p < 3) {wd a : Int32} (h : ∀ A', Fr [46] A A' → Ph (some (.int (tl S r p (nvF S wd a nr)))) A' L) : qC E mm_X7_tell (d + 2) [.ref 38, .int (nI p), .int wd, .int a] A L Ph := by
  obtain ⟨hE, hR, hr, hT, ⟨e, he⟩, k1, k2, k3, k4⟩ := id hm
  have hR2 := hR
  obtain ⟨r1, r2, r3, r4, r5, r6, r7, r8, -⟩ := hR2
  obtain ⟨l1, l2⟩ := he.le hp
  refine sp_X7_tell hE r p (spt e p) (e p) (by omega) hp (fun h0 => ?_) (fun h0 => by rw [h0]; rfl) ?_ l1 l2 k3 (f := fun i => S 42 (160 * r + i)) (nv := nvF S wd a nr) (fun i hi => r7 r i hr (by rw [TXv_pe he (by decide)]; rcases (show p = 0 ∨ p = 1 ∨ p = 2 by omega) with q | q | q <;> subst q <;> have := he.2.1 <;> have := he.2.2.1 <;> omega)) rfl rfl k2 (by rw [r1]; rfl) k4 (by rw [r1]; rfl) (he.2.2.2.2 p hp) (fun g => ?_)
  · rw [r8 _ (by omega), show 3 * r + p - 1 = 3 * r + (p - 1) by omega, he.1 (p - 1) (by omega)]
    unfold spt
    rw [if_neg h0]
  · rw [r8 _ (by omega), he.1 p hp]
  · have K := h _ (Fr.up (A := A) (g := g) (List.mem_singleton.mpr rfl))
    rw [tl_eq he hp] at K
    exact K
set_option maxRecDepth 100000 in
set_option maxHeartbeats 4000000 in
theorem sp_X7_heats (hm : ME E A S T r kd nr) {a : Int32} {wd : Int32} (h : ∀ A', Fr [46] A A' → Ph (some (.int (heatF S r kd nr a wd))) A' L) : qC E mm_X7_heats (d + 3) [.ref 38, .int a, .int wd] A L Ph := by
  refine qC.enter (by decide) (Nat.le_of_ble_eq_true rfl) ?_
  obtain ⟨hE, hR, hr, hT, he, k1, k2, k3, k4⟩ := id hm
  refine r_aload_n dX7_heats_0 rfl ?_
  refine r_iconst (v := 0) dX7_heats_1 rfl ?_
  refine r_iload_n dX7_heats_2 rfl ?_
  refine r_iload_n dX7_heats_3 rfl ?_
  refine r_callV3 dX7_heats_4 lk_X7_206 (ly_38 hE) rfl (Nat.le_of_ble_eq_true rfl) (sp_tell hm 0 (by decide) (fun A1 f1 => ?_))
  have e38 : A1 38 = A 38 := f1 38 (by decide)
  refine r_bipush (v := (-99)) dX7_heats_7 rfl ?_
  refine r_bipush (v := 99) dX7_heats_9 rfl ?_
  refine r_callS3 dX7_heats_11 lk_X7_209 (Nat.le_of_ble_eq_true rfl) (sp_X7_bound ?_)
  refine r_topi (fun v14 e14 => ?_)
  refine r_istore_n (loc' := [(3, .int v14), (0, .ref 38), (1, .int a), (2, .int wd)]) dX7_heats_14 (by decide) rfl ?_
  refine r_iload_n dX7_heats_15 rfl ?_
  refine r_aload_n dX7_heats_16 rfl ?_
  refine r_getI dX7_heats_17 fl_X7_190 (ly_38 hE) rfl ?_
  refine r_rw (y := nr) (by rw [e38]; exact k2) ?_
  refine r_bipush (v := 6) dX7_heats_20 rfl ?_
  refine r_irem dX7_heats_22 (by decide) ?_
  refine r_icmp_ne (tgt := 32) dX7_heats_23 (by decide) (fun b23 => ?_) (fun b23 => ?_)
  · refine r_iload_n dX7_heats_32 rfl ?_
    refine r_istore (loc' := [(4, .int v14), (3, .int v14), (0, .ref 38), (1, .int a), (2, .int wd)]) dX7_heats_33 (by decide) rfl ?_
    refine r_aload_n dX7_heats_35 rfl ?_
    refine r_getI dX7_heats_36 fl_X7_200 (ly_38 hE) rfl ?_
    refine r_rw (y := kd) (by rw [e38]; exact k1) ?_
    by_cases e39_0 : kd = 1
    · refine r_tableIn (off := 33) (tgt := 72) dX7_heats_39 (by rw [e39_0]; decide) (by rw [e39_0]; decide) (by rw [e39_0]; rfl) (by decide) ?_
      refine r_iload dX7_heats_72 rfl ?_
      refine r_bipush (v := (-99)) dX7_heats_74 rfl ?_
      refine r_bipush (v := 99) dX7_heats_76 rfl ?_
      refine r_callS3 dX7_heats_78 lk_X7_209 (Nat.le_of_ble_eq_true rfl) (sp_X7_bound ?_)
      refine r_ireturn dX7_heats_81 rfl rfl ?_
      have K := h A1 f1
      unfold heatF hV wdV at K
      try subst e33
      subst e14
      first | rwa [if_pos e39_0, if_pos b23] at K | rwa [if_pos e39_0, if_neg b23] at K | rwa [if_neg e39_0, if_pos e39_1] at K | rwa [if_neg e39_0, if_neg e39_1, if_pos e39_2, if_pos b23] at K | rwa [if_neg e39_0, if_neg e39_1, if_pos e39_2, if_neg b23] at K | rwa [if_neg e39_0, if_neg e39_1, if_neg e39_2, if_pos e39_3, if_neg (by simp only [i_lt, i_le] at *; omega)] at K | rwa [if_neg e39_0, if_neg e39_1, if_neg e39_2, if_pos e39_3, if_pos (by simp only [i_lt, i_le] at *; omega)] at K | rwa [if_neg e39_0, if_neg e39_1, if_neg e39_2, if_neg e39_3, if_pos e39_4] at K | rwa [if_neg e39_0, if_neg e39_1, if_neg e39_2, if_neg e39_3, if_neg e39_4] at K
    by_cases e39_1 : kd = 2
    · refine r_tableIn (off := 43) (tgt := 82) dX7_heats_39 (by rw [e39_1]; decide) (by rw [e39_1]; decide) (by rw [e39_1]; rfl) (by decide) ?_
      refine r_iload_n dX7_heats_82 rfl ?_
      refine r_iconst (v := 2) dX7_heats_83 rfl ?_
      refine r_idiv dX7_heats_84 (by decide) ?_
      refine r_ireturn dX7_heats_85 rfl rfl ?_
      have K := h A1 f1
      unfold heatF hV wdV at K
      try subst e33
      subst e14
      first | rwa [if_pos e39_0, if_pos b23] at K | rwa [if_pos e39_0, if_neg b23] at K | rwa [if_neg e39_0, if_pos e39_1] at K | rwa [if_neg e39_0, if_neg e39_1, if_pos e39_2, if_pos b23] at K | rwa [if_neg e39_0, if_neg e39_1, if_pos e39_2, if_neg b23] at K | rwa [if_neg e39_0, if_neg e39_1, if_neg e39_2, if_pos e39_3, if_neg (by simp only [i_lt, i_le] at *; omega)] at K | rwa [if_neg e39_0, if_neg e39_1, if_neg e39_2, if_pos e39_3, if_pos (by simp only [i_lt, i_le] at *; omega)] at K | rwa [if_neg e39_0, if_neg e39_1, if_neg e39_2, if_neg e39_3, if_pos e39_4] at K | rwa [if_neg e39_0, if_neg e39_1, if_neg e39_2, if_neg e39_3, if_neg e39_4] at K
    by_cases e39_2 : kd = 3
    · refine r_tableIn (off := 47) (tgt := 86) dX7_heats_39 (by rw [e39_2]; decide) (by rw [e39_2]; decide) (by rw [e39_2]; rfl) (by decide) ?_
      refine r_iload dX7_heats_86 rfl ?_
      refine r_iconst (v := 0) dX7_heats_88 rfl ?_
      refine r_bipush (v := 99) dX7_heats_89 rfl ?_
      refine r_callS3 dX7_heats_91 lk_X7_209 (Nat.le_of_ble_eq_true rfl) (sp_X7_bound ?_)
      refine r_ireturn dX7_heats_94 rfl rfl ?_
      have K := h A1 f1
      unfold heatF hV wdV at K
      try subst e33
      subst e14
      first | rwa [if_pos e39_0, if_pos b23] at K | rwa [if_pos e39_0, if_neg b23] at K | rwa [if_neg e39_0, if_pos e39_1] at K | rwa [if_neg e39_0, if_neg e39_1, if_pos e39_2, if_pos b23] at K | rwa [if_neg e39_0, if_neg e39_1, if_pos e39_2, if_neg b23] at K | rwa [if_neg e39_0, if_neg e39_1, if_neg e39_2, if_pos e39_3, if_neg (by simp only [i_lt, i_le] at *; omega)] at K | rwa [if_neg e39_0, if_neg e39_1, if_neg e39_2, if_pos e39_3, if_pos (by simp only [i_lt, i_le] at *; omega)] at K | rwa [if_neg e39_0, if_neg e39_1, if_neg e39_2, if_neg e39_3, if_pos e39_4] at K | rwa [if_neg e39_0, if_neg e39_1, if_neg e39_2, if_neg e39_3, if_neg e39_4] at K
    by_cases e39_3 : kd = 4
    · refine r_tableIn (off := 56) (tgt := 95) dX7_heats_39 (by rw [e39_3]; decide) (by rw [e39_3]; decide) (by rw [e39_3]; rfl) (by decide) ?_
      refine r_iload_n dX7_heats_95 rfl ?_
      refine r_bipush (v := 20) dX7_heats_96 rfl ?_
      refine r_icmp_ge (tgt := 106) dX7_heats_98 (by decide) (fun b98 => ?_) (fun b98 => ?_)
      · refine r_iload_n dX7_heats_106 rfl ?_
        refine r_iconst (v := 2) dX7_heats_107 rfl ?_
        refine r_idiv dX7_heats_108 (by decide) ?_
        refine r_ireturn dX7_heats_109 rfl rfl ?_
        have K := h A1 f1
        unfold heatF hV wdV at K
        try subst e33
        subst e14
        first | rwa [if_pos e39_0, if_pos b23] at K | rwa [if_pos e39_0, if_neg b23] at K | rwa [if_neg e39_0, if_pos e39_1] at K | rwa [if_neg e39_0, if_neg e39_1, if_pos e39_2, if_pos b23] at K | rwa [if_neg e39_0, if_neg e39_1, if_pos e39_2, if_neg b23] at K | rwa [if_neg e39_0, if_neg e39_1, if_neg e39_2, if_pos e39_3, if_neg (by simp only [i_lt, i_le] at *; omega)] at K | rwa [if_neg e39_0, if_neg e39_1, if_neg e39_2, if_pos e39_3, if_pos (by simp only [i_lt, i_le] at *; omega)] at K | rwa [if_neg e39_0, if_neg e39_1, if_neg e39_2, if_neg e39_3, if_pos e39_4] at K | rwa [if_neg e39_0, if_neg e39_1, if_neg e39_2, if_neg e39_3, if_neg e39_4] at K
      · refine r_bipush (v := (-10)) dX7_heats_101 rfl ?_
        refine r_goto (tgt := 109) dX7_heats_103 (by decide) ?_
        refine r_ireturn dX7_heats_109 rfl rfl ?_
        have K := h A1 f1
        unfold heatF hV wdV at K
        try subst e33
        subst e14
        first | rwa [if_pos e39_0, if_pos b23] at K | rwa [if_pos e39_0, if_neg b23] at K | rwa [if_neg e39_0, if_pos e39_1] at K | rwa [if_neg e39_0, if_neg e39_1, if_pos e39_2, if_pos b23] at K | rwa [if_neg e39_0, if_neg e39_1, if_pos e39_2, if_neg b23] at K | rwa [if_neg e39_0, if_neg e39_1, if_neg e39_2, if_pos e39_3, if_neg (by simp only [i_lt, i_le] at *; omega)] at K | rwa [if_neg e39_0, if_neg e39_1, if_neg e39_2, if_pos e39_3, if_pos (by simp only [i_lt, i_le] at *; omega)] at K | rwa [if_neg e39_0, if_neg e39_1, if_neg e39_2, if_neg e39_3, if_pos e39_4] at K | rwa [if_neg e39_0, if_neg e39_1, if_neg e39_2, if_neg e39_3, if_neg e39_4] at K
    by_cases e39_4 : kd = 5
    · refine r_tableIn (off := 71) (tgt := 110) dX7_heats_39 (by rw [e39_4]; decide) (by rw [e39_4]; decide) (by rw [e39_4]; rfl) (by decide) ?_
      refine r_iconst (v := 0) dX7_heats_110 rfl ?_
      refine r_ireturn dX7_heats_111 rfl rfl ?_
      have K := h A1 f1
      unfold heatF hV wdV at K
      try subst e33
      subst e14
      first | rwa [if_pos e39_0, if_pos b23] at K | rwa [if_pos e39_0, if_neg b23] at K | rwa [if_neg e39_0, if_pos e39_1] at K | rwa [if_neg e39_0, if_neg e39_1, if_pos e39_2, if_pos b23] at K | rwa [if_neg e39_0, if_neg e39_1, if_pos e39_2, if_neg b23] at K | rwa [if_neg e39_0, if_neg e39_1, if_neg e39_2, if_pos e39_3, if_neg (by simp only [i_lt, i_le] at *; omega)] at K | rwa [if_neg e39_0, if_neg e39_1, if_neg e39_2, if_pos e39_3, if_pos (by simp only [i_lt, i_le] at *; omega)] at K | rwa [if_neg e39_0, if_neg e39_1, if_neg e39_2, if_neg e39_3, if_pos e39_4] at K | rwa [if_neg e39_0, if_neg e39_1, if_neg e39_2, if_neg e39_3, if_neg e39_4] at K
    refine r_tableOut (tgt := 112) dX7_heats_39 (sw_1_5 e39_0 e39_1 e39_2 e39_3 e39_4) (by decide) ?_
    refine r_iload_n dX7_heats_112 rfl ?_
    refine r_ireturn dX7_heats_113 rfl rfl ?_
    have K := h A1 f1
    unfold heatF hV wdV at K
    try subst e33
    subst e14
    first | rwa [if_pos e39_0, if_pos b23] at K | rwa [if_pos e39_0, if_neg b23] at K | rwa [if_neg e39_0, if_pos e39_1] at K | rwa [if_neg e39_0, if_neg e39_1, if_pos e39_2, if_pos b23] at K | rwa [if_neg e39_0, if_neg e39_1, if_pos e39_2, if_neg b23] at K | rwa [if_neg e39_0, if_neg e39_1, if_neg e39_2, if_pos e39_3, if_neg (by simp only [i_lt, i_le] at *; omega)] at K | rwa [if_neg e39_0, if_neg e39_1, if_neg e39_2, if_pos e39_3, if_pos (by simp only [i_lt, i_le] at *; omega)] at K | rwa [if_neg e39_0, if_neg e39_1, if_neg e39_2, if_neg e39_3, if_pos e39_4] at K | rwa [if_neg e39_0, if_neg e39_1, if_neg e39_2, if_neg e39_3, if_neg e39_4] at K
  · refine r_iconst (v := 2) dX7_heats_26 rfl ?_
    refine r_iload_n dX7_heats_27 rfl ?_
    refine r_imul dX7_heats_28 ?_
    refine r_goto (tgt := 33) dX7_heats_29 (by decide) ?_
    refine r_topi (fun v33 e33 => ?_)
    refine r_istore (loc' := [(4, .int v33), (3, .int v14), (0, .ref 38), (1, .int a), (2, .int wd)]) dX7_heats_33 (by decide) rfl ?_
    refine r_aload_n dX7_heats_35 rfl ?_
    refine r_getI dX7_heats_36 fl_X7_200 (ly_38 hE) rfl ?_
    refine r_rw (y := kd) (by rw [e38]; exact k1) ?_
    by_cases e39_0 : kd = 1
    · refine r_tableIn (off := 33) (tgt := 72) dX7_heats_39 (by rw [e39_0]; decide) (by rw [e39_0]; decide) (by rw [e39_0]; rfl) (by decide) ?_
      refine r_iload dX7_heats_72 rfl ?_
      refine r_bipush (v := (-99)) dX7_heats_74 rfl ?_
      refine r_bipush (v := 99) dX7_heats_76 rfl ?_
      refine r_callS3 dX7_heats_78 lk_X7_209 (Nat.le_of_ble_eq_true rfl) (sp_X7_bound ?_)
      refine r_ireturn dX7_heats_81 rfl rfl ?_
      have K := h A1 f1
      unfold heatF hV wdV at K
      try subst e33
      subst e14
      first | rwa [if_pos e39_0, if_pos b23] at K | rwa [if_pos e39_0, if_neg b23] at K | rwa [if_neg e39_0, if_pos e39_1] at K | rwa [if_neg e39_0, if_neg e39_1, if_pos e39_2, if_pos b23] at K | rwa [if_neg e39_0, if_neg e39_1, if_pos e39_2, if_neg b23] at K | rwa [if_neg e39_0, if_neg e39_1, if_neg e39_2, if_pos e39_3, if_neg (by simp only [i_lt, i_le] at *; omega)] at K | rwa [if_neg e39_0, if_neg e39_1, if_neg e39_2, if_pos e39_3, if_pos (by simp only [i_lt, i_le] at *; omega)] at K | rwa [if_neg e39_0, if_neg e39_1, if_neg e39_2, if_neg e39_3, if_pos e39_4] at K | rwa [if_neg e39_0, if_neg e39_1, if_neg e39_2, if_neg e39_3, if_neg e39_4] at K
    by_cases e39_1 : kd = 2
    · refine r_tableIn (off := 43) (tgt := 82) dX7_heats_39 (by rw [e39_1]; decide) (by rw [e39_1]; decide) (by rw [e39_1]; rfl) (by decide) ?_
      refine r_iload_n dX7_heats_82 rfl ?_
      refine r_iconst (v := 2) dX7_heats_83 rfl ?_
      refine r_idiv dX7_heats_84 (by decide) ?_
      refine r_ireturn dX7_heats_85 rfl rfl ?_
      have K := h A1 f1
      unfold heatF hV wdV at K
      try subst e33
      subst e14
      first | rwa [if_pos e39_0, if_pos b23] at K | rwa [if_pos e39_0, if_neg b23] at K | rwa [if_neg e39_0, if_pos e39_1] at K | rwa [if_neg e39_0, if_neg e39_1, if_pos e39_2, if_pos b23] at K | rwa [if_neg e39_0, if_neg e39_1, if_pos e39_2, if_neg b23] at K | rwa [if_neg e39_0, if_neg e39_1, if_neg e39_2, if_pos e39_3, if_neg (by simp only [i_lt, i_le] at *; omega)] at K | rwa [if_neg e39_0, if_neg e39_1, if_neg e39_2, if_pos e39_3, if_pos (by simp only [i_lt, i_le] at *; omega)] at K | rwa [if_neg e39_0, if_neg e39_1, if_neg e39_2, if_neg e39_3, if_pos e39_4] at K | rwa [if_neg e39_0, if_neg e39_1, if_neg e39_2, if_neg e39_3, if_neg e39_4] at K
    by_cases e39_2 : kd = 3
    · refine r_tableIn (off := 47) (tgt := 86) dX7_heats_39 (by rw [e39_2]; decide) (by rw [e39_2]; decide) (by rw [e39_2]; rfl) (by decide) ?_
      refine r_iload dX7_heats_86 rfl ?_
      refine r_iconst (v := 0) dX7_heats_88 rfl ?_
      refine r_bipush (v := 99) dX7_heats_89 rfl ?_
      refine r_callS3 dX7_heats_91 lk_X7_209 (Nat.le_of_ble_eq_true rfl) (sp_X7_bound ?_)
      refine r_ireturn dX7_heats_94 rfl rfl ?_
      have K := h A1 f1
      unfold heatF hV wdV at K
      try subst e33
      subst e14
      first | rwa [if_pos e39_0, if_pos b23] at K | rwa [if_pos e39_0, if_neg b23] at K | rwa [if_neg e39_0, if_pos e39_1] at K | rwa [if_neg e39_0, if_neg e39_1, if_pos e39_2, if_pos b23] at K | rwa [if_neg e39_0, if_neg e39_1, if_pos e39_2, if_neg b23] at K | rwa [if_neg e39_0, if_neg e39_1, if_neg e39_2, if_pos e39_3, if_neg (by simp only [i_lt, i_le] at *; omega)] at K | rwa [if_neg e39_0, if_neg e39_1, if_neg e39_2, if_pos e39_3, if_pos (by simp only [i_lt, i_le] at *; omega)] at K | rwa [if_neg e39_0, if_neg e39_1, if_neg e39_2, if_neg e39_3, if_pos e39_4] at K | rwa [if_neg e39_0, if_neg e39_1, if_neg e39_2, if_neg e39_3, if_neg e39_4] at K
    by_cases e39_3 : kd = 4
    · refine r_tableIn (off := 56) (tgt := 95) dX7_heats_39 (by rw [e39_3]; decide) (by rw [e39_3]; decide) (by rw [e39_3]; rfl) (by decide) ?_
      refine r_iload_n dX7_heats_95 rfl ?_
      refine r_bipush (v := 20) dX7_heats_96 rfl ?_
      refine r_icmp_ge (tgt := 106) dX7_heats_98 (by decide) (fun b98 => ?_) (fun b98 => ?_)
      · refine r_iload_n dX7_heats_106 rfl ?_
        refine r_iconst (v := 2) dX7_heats_107 rfl ?_
        refine r_idiv dX7_heats_108 (by decide) ?_
        refine r_ireturn dX7_heats_109 rfl rfl ?_
        have K := h A1 f1
        unfold heatF hV wdV at K
        try subst e33
        subst e14
        first | rwa [if_pos e39_0, if_pos b23] at K | rwa [if_pos e39_0, if_neg b23] at K | rwa [if_neg e39_0, if_pos e39_1] at K | rwa [if_neg e39_0, if_neg e39_1, if_pos e39_2, if_pos b23] at K | rwa [if_neg e39_0, if_neg e39_1, if_pos e39_2, if_neg b23] at K | rwa [if_neg e39_0, if_neg e39_1, if_neg e39_2, if_pos e39_3, if_neg (by simp only [i_lt, i_le] at *; omega)] at K | rwa [if_neg e39_0, if_neg e39_1, if_neg e39_2, if_pos e39_3, if_pos (by simp only [i_lt, i_le] at *; omega)] at K | rwa [if_neg e39_0, if_neg e39_1, if_neg e39_2, if_neg e39_3, if_pos e39_4] at K | rwa [if_neg e39_0, if_neg e39_1, if_neg e39_2, if_neg e39_3, if_neg e39_4] at K
      · refine r_bipush (v := (-10)) dX7_heats_101 rfl ?_
        refine r_goto (tgt := 109) dX7_heats_103 (by decide) ?_
        refine r_ireturn dX7_heats_109 rfl rfl ?_
        have K := h A1 f1
        unfold heatF hV wdV at K
        try subst e33
        subst e14
        first | rwa [if_pos e39_0, if_pos b23] at K | rwa [if_pos e39_0, if_neg b23] at K | rwa [if_neg e39_0, if_pos e39_1] at K | rwa [if_neg e39_0, if_neg e39_1, if_pos e39_2, if_pos b23] at K | rwa [if_neg e39_0, if_neg e39_1, if_pos e39_2, if_neg b23] at K | rwa [if_neg e39_0, if_neg e39_1, if_neg e39_2, if_pos e39_3, if_neg (by simp only [i_lt, i_le] at *; omega)] at K | rwa [if_neg e39_0, if_neg e39_1, if_neg e39_2, if_pos e39_3, if_pos (by simp only [i_lt, i_le] at *; omega)] at K | rwa [if_neg e39_0, if_neg e39_1, if_neg e39_2, if_neg e39_3, if_pos e39_4] at K | rwa [if_neg e39_0, if_neg e39_1, if_neg e39_2, if_neg e39_3, if_neg e39_4] at K
    by_cases e39_4 : kd = 5
    · refine r_tableIn (off := 71) (tgt := 110) dX7_heats_39 (by rw [e39_4]; decide) (by rw [e39_4]; decide) (by rw [e39_4]; rfl) (by decide) ?_
      refine r_iconst (v := 0) dX7_heats_110 rfl ?_
      refine r_ireturn dX7_heats_111 rfl rfl ?_
      have K := h A1 f1
      unfold heatF hV wdV at K
      try subst e33
      subst e14
      first | rwa [if_pos e39_0, if_pos b23] at K | rwa [if_pos e39_0, if_neg b23] at K | rwa [if_neg e39_0, if_pos e39_1] at K | rwa [if_neg e39_0, if_neg e39_1, if_pos e39_2, if_pos b23] at K | rwa [if_neg e39_0, if_neg e39_1, if_pos e39_2, if_neg b23] at K | rwa [if_neg e39_0, if_neg e39_1, if_neg e39_2, if_pos e39_3, if_neg (by simp only [i_lt, i_le] at *; omega)] at K | rwa [if_neg e39_0, if_neg e39_1, if_neg e39_2, if_pos e39_3, if_pos (by simp only [i_lt, i_le] at *; omega)] at K | rwa [if_neg e39_0, if_neg e39_1, if_neg e39_2, if_neg e39_3, if_pos e39_4] at K | rwa [if_neg e39_0, if_neg e39_1, if_neg e39_2, if_neg e39_3, if_neg e39_4] at K
    refine r_tableOut (tgt := 112) dX7_heats_39 (sw_1_5 e39_0 e39_1 e39_2 e39_3 e39_4) (by decide) ?_
    refine r_iload_n dX7_heats_112 rfl ?_
    refine r_ireturn dX7_heats_113 rfl rfl ?_
    have K := h A1 f1
    unfold heatF hV wdV at K
    try subst e33
    subst e14
    first | rwa [if_pos e39_0, if_pos b23] at K | rwa [if_pos e39_0, if_neg b23] at K | rwa [if_neg e39_0, if_pos e39_1] at K | rwa [if_neg e39_0, if_neg e39_1, if_pos e39_2, if_pos b23] at K | rwa [if_neg e39_0, if_neg e39_1, if_pos e39_2, if_neg b23] at K | rwa [if_neg e39_0, if_neg e39_1, if_neg e39_2, if_pos e39_3, if_neg (by simp only [i_lt, i_le] at *; omega)] at K | rwa [if_neg e39_0, if_neg e39_1, if_neg e39_2, if_pos e39_3, if_pos (by simp only [i_lt, i_le] at *; omega)] at K | rwa [if_neg e39_0, if_neg e39_1, if_neg e39_2, if_neg e39_3, if_pos e39_4] at K | rwa [if_neg e39_0, if_neg e39_1, if_neg e39_2, if_neg e39_3, if_neg e39_4] at K
set_option maxRecDepth 100000 in
set_option maxHeartbeats 4000000 in
theorem sp_X7_cools (hm : ME E A S T r kd nr) {a : Int32} (h : ∀ A', Fr [46] A A' → Ph (some (.int (coolF S r kd nr a))) A' L) : qC E mm_X7_cools (d + 3) [.ref 38, .int a] A L Ph := by
  refine qC.enter (by decide) (Nat.le_of_ble_eq_true rfl) ?_
  obtain ⟨hE, hR, hr, hT, he, k1, k2, k3, k4⟩ := id hm
  refine r_aload_n dX7_cools_0 rfl ?_
  refine r_iconst (v := 1) dX7_cools_1 rfl ?_
  refine r_iconst (v := 0) dX7_cools_2 rfl ?_
  refine r_iload_n dX7_cools_3 rfl ?_
  refine r_callV3 dX7_cools_4 lk_X7_206 (ly_38 hE) rfl (Nat.le_of_ble_eq_true rfl) (sp_tell hm 1 (by decide) (fun A1 f1 => ?_))
  have e38 : A1 38 = A 38 := f1 38 (by decide)
  refine r_iconst (v := 0) dX7_cools_7 rfl ?_
  refine r_bipush (v := 99) dX7_cools_8 rfl ?_
  refine r_callS3 dX7_cools_10 lk_X7_209 (Nat.le_of_ble_eq_true rfl) (sp_X7_bound ?_)
  refine r_topi (fun v13 e13 => ?_)
  refine r_istore_n (loc' := [(2, .int v13), (0, .ref 38), (1, .int a)]) dX7_cools_13 (by decide) rfl ?_
  refine r_aload_n dX7_cools_14 rfl ?_
  refine r_getI dX7_cools_15 fl_X7_200 (ly_38 hE) rfl ?_
  refine r_rw (y := kd) (by rw [e38]; exact k1) ?_
  by_cases e18_0 : kd = 1
  · refine r_tableIn (off := 30) (tgt := 48) dX7_cools_18 (by rw [e18_0]; decide) (by rw [e18_0]; decide) (by rw [e18_0]; rfl) (by decide) ?_
    refine r_iload_n dX7_cools_48 rfl ?_
    refine r_iconst (v := 1) dX7_cools_49 rfl ?_
    refine r_isub dX7_cools_50 ?_
    refine r_iconst (v := 0) dX7_cools_51 rfl ?_
    refine r_bipush (v := 99) dX7_cools_52 rfl ?_
    refine r_callS3 dX7_cools_54 lk_X7_209 (Nat.le_of_ble_eq_true rfl) (sp_X7_bound ?_)
    refine r_ireturn dX7_cools_57 rfl rfl ?_
    have K := h A1 f1
    unfold coolF cV at K
    subst e13
    first | rwa [if_pos e18_0] at K | rwa [if_neg e18_0, if_pos e18_1] at K | rwa [if_neg e18_0, if_neg e18_1, if_pos e18_2, if_pos b71] at K | rwa [if_neg e18_0, if_neg e18_1, if_pos e18_2, if_neg b71] at K | rwa [if_neg e18_0, if_neg e18_1, if_neg e18_2, if_pos e18_3] at K | rwa [if_neg e18_0, if_neg e18_1, if_neg e18_2, if_neg e18_3] at K
  by_cases e18_1 : kd = 2
  · refine r_tableIn (off := 40) (tgt := 58) dX7_cools_18 (by rw [e18_1]; decide) (by rw [e18_1]; decide) (by rw [e18_1]; rfl) (by decide) ?_
    refine r_iload_n dX7_cools_58 rfl ?_
    refine r_iconst (v := 3) dX7_cools_59 rfl ?_
    refine r_iadd dX7_cools_60 ?_
    refine r_iconst (v := 0) dX7_cools_61 rfl ?_
    refine r_bipush (v := 99) dX7_cools_62 rfl ?_
    refine r_callS3 dX7_cools_64 lk_X7_209 (Nat.le_of_ble_eq_true rfl) (sp_X7_bound ?_)
    refine r_ireturn dX7_cools_67 rfl rfl ?_
    have K := h A1 f1
    unfold coolF cV at K
    subst e13
    first | rwa [if_pos e18_0] at K | rwa [if_neg e18_0, if_pos e18_1] at K | rwa [if_neg e18_0, if_neg e18_1, if_pos e18_2, if_pos b71] at K | rwa [if_neg e18_0, if_neg e18_1, if_pos e18_2, if_neg b71] at K | rwa [if_neg e18_0, if_neg e18_1, if_neg e18_2, if_pos e18_3] at K | rwa [if_neg e18_0, if_neg e18_1, if_neg e18_2, if_neg e18_3] at K
  by_cases e18_2 : kd = 3
  · refine r_tableIn (off := 50) (tgt := 68) dX7_cools_18 (by rw [e18_2]; decide) (by rw [e18_2]; decide) (by rw [e18_2]; rfl) (by decide) ?_
    refine r_iload_n dX7_cools_68 rfl ?_
    refine r_bipush (v := 50) dX7_cools_69 rfl ?_
    refine r_icmp_le (tgt := 78) dX7_cools_71 (by decide) (fun b71 => ?_) (fun b71 => ?_)
    · refine r_iload_n dX7_cools_78 rfl ?_
      refine r_iconst (v := 1) dX7_cools_79 rfl ?_
      refine r_isub dX7_cools_80 ?_
      refine r_iconst (v := 0) dX7_cools_81 rfl ?_
      refine r_bipush (v := 99) dX7_cools_82 rfl ?_
      refine r_callS3 dX7_cools_84 lk_X7_209 (Nat.le_of_ble_eq_true rfl) (sp_X7_bound ?_)
      refine r_ireturn dX7_cools_87 rfl rfl ?_
      have K := h A1 f1
      unfold coolF cV at K
      subst e13
      first | rwa [if_pos e18_0] at K | rwa [if_neg e18_0, if_pos e18_1] at K | rwa [if_neg e18_0, if_neg e18_1, if_pos e18_2, if_pos b71] at K | rwa [if_neg e18_0, if_neg e18_1, if_pos e18_2, if_neg b71] at K | rwa [if_neg e18_0, if_neg e18_1, if_neg e18_2, if_pos e18_3] at K | rwa [if_neg e18_0, if_neg e18_1, if_neg e18_2, if_neg e18_3] at K
    · refine r_iconst (v := 0) dX7_cools_74 rfl ?_
      refine r_goto (tgt := 87) dX7_cools_75 (by decide) ?_
      refine r_ireturn dX7_cools_87 rfl rfl ?_
      have K := h A1 f1
      unfold coolF cV at K
      subst e13
      first | rwa [if_pos e18_0] at K | rwa [if_neg e18_0, if_pos e18_1] at K | rwa [if_neg e18_0, if_neg e18_1, if_pos e18_2, if_pos b71] at K | rwa [if_neg e18_0, if_neg e18_1, if_pos e18_2, if_neg b71] at K | rwa [if_neg e18_0, if_neg e18_1, if_neg e18_2, if_pos e18_3] at K | rwa [if_neg e18_0, if_neg e18_1, if_neg e18_2, if_neg e18_3] at K
  by_cases e18_3 : kd = 4
  · refine r_tableIn (off := 70) (tgt := 88) dX7_cools_18 (by rw [e18_3]; decide) (by rw [e18_3]; decide) (by rw [e18_3]; rfl) (by decide) ?_
    refine r_iconst (v := 2) dX7_cools_88 rfl ?_
    refine r_iload_n dX7_cools_89 rfl ?_
    refine r_iconst (v := 3) dX7_cools_90 rfl ?_
    refine r_iadd dX7_cools_91 ?_
    refine r_imul dX7_cools_92 ?_
    refine r_iconst (v := 0) dX7_cools_93 rfl ?_
    refine r_bipush (v := 99) dX7_cools_94 rfl ?_
    refine r_callS3 dX7_cools_96 lk_X7_209 (Nat.le_of_ble_eq_true rfl) (sp_X7_bound ?_)
    refine r_ireturn dX7_cools_99 rfl rfl ?_
    have K := h A1 f1
    unfold coolF cV at K
    subst e13
    first | rwa [if_pos e18_0] at K | rwa [if_neg e18_0, if_pos e18_1] at K | rwa [if_neg e18_0, if_neg e18_1, if_pos e18_2, if_pos b71] at K | rwa [if_neg e18_0, if_neg e18_1, if_pos e18_2, if_neg b71] at K | rwa [if_neg e18_0, if_neg e18_1, if_neg e18_2, if_pos e18_3] at K | rwa [if_neg e18_0, if_neg e18_1, if_neg e18_2, if_neg e18_3] at K
  refine r_tableOut (tgt := 100) dX7_cools_18 (sw_1_4 e18_0 e18_1 e18_2 e18_3) (by decide) ?_
  refine r_iload_n dX7_cools_100 rfl ?_
  refine r_ireturn dX7_cools_101 rfl rfl ?_
  have K := h A1 f1
  unfold coolF cV at K
  subst e13
  first | rwa [if_pos e18_0] at K | rwa [if_neg e18_0, if_pos e18_1] at K | rwa [if_neg e18_0, if_neg e18_1, if_pos e18_2, if_pos b71] at K | rwa [if_neg e18_0, if_neg e18_1, if_pos e18_2, if_neg b71] at K | rwa [if_neg e18_0, if_neg e18_1, if_neg e18_2, if_pos e18_3] at K | rwa [if_neg e18_0, if_neg e18_1, if_neg e18_2, if_neg e18_3] at K
set_option maxRecDepth 100000 in
set_option maxHeartbeats 4000000 in
theorem sp_X7_far (hm : ME E A S T r kd nr) {a : Int32} (h : ∀ A', Fr [46] A A' → Ph (some (.int (farF S r kd nr a))) A' L) : qC E mm_X7_far (d + 3) [.ref 38, .int a] A L Ph := by
  refine qC.enter (by decide) (Nat.le_of_ble_eq_true rfl) ?_
  obtain ⟨hE, hR, hr, hT, he, k1, k2, k3, k4⟩ := id hm
  refine r_aload_n dX7_far_0 rfl ?_
  refine r_iconst (v := 2) dX7_far_1 rfl ?_
  refine r_iconst (v := 0) dX7_far_2 rfl ?_
  refine r_iload_n dX7_far_3 rfl ?_
  refine r_callV3 dX7_far_4 lk_X7_206 (ly_38 hE) rfl (Nat.le_of_ble_eq_true rfl) (sp_tell hm 2 (by decide) (fun A1 f1 => ?_))
  have e38 : A1 38 = A 38 := f1 38 (by decide)
  refine r_iconst (v := 0) dX7_far_7 rfl ?_
  refine r_bipush (v := 40) dX7_far_8 rfl ?_
  refine r_callS3 dX7_far_10 lk_X7_209 (Nat.le_of_ble_eq_true rfl) (sp_X7_bound ?_)
  refine r_topi (fun v13 e13 => ?_)
  refine r_istore_n (loc' := [(2, .int v13), (0, .ref 38), (1, .int a)]) dX7_far_13 (by decide) rfl ?_
  refine r_aload_n dX7_far_14 rfl ?_
  refine r_getI dX7_far_15 fl_X7_200 (ly_38 hE) rfl ?_
  refine r_rw (y := kd) (by rw [e38]; exact k1) ?_
  by_cases e18_0 : kd = 2
  · refine r_tableIn (off := 30) (tgt := 48) dX7_far_18 (by rw [e18_0]; decide) (by rw [e18_0]; decide) (by rw [e18_0]; rfl) (by decide) ?_
    refine r_iload_n dX7_far_48 rfl ?_
    refine r_aload_n dX7_far_49 rfl ?_
    refine r_getI dX7_far_50 fl_X7_190 (ly_38 hE) rfl ?_
    refine r_rw (y := nr) (by rw [e38]; exact k2) ?_
    refine r_isub dX7_far_53 ?_
    refine r_iconst (v := 0) dX7_far_54 rfl ?_
    refine r_bipush (v := 40) dX7_far_55 rfl ?_
    refine r_callS3 dX7_far_57 lk_X7_209 (Nat.le_of_ble_eq_true rfl) (sp_X7_bound ?_)
    refine r_ireturn dX7_far_60 rfl rfl ?_
    have K := h A1 f1
    unfold farF fV at K
    subst e13
    first | rwa [if_pos e18_0] at K | rwa [if_neg e18_0, if_pos e18_1] at K | rwa [if_neg e18_0, if_neg e18_1, if_pos e18_2, if_pos b72] at K | rwa [if_neg e18_0, if_neg e18_1, if_pos e18_2, if_neg b72] at K | rwa [if_neg e18_0, if_neg e18_1, if_neg e18_2, if_pos e18_3] at K | rwa [if_neg e18_0, if_neg e18_1, if_neg e18_2, if_neg e18_3] at K
  by_cases e18_1 : kd = 3
  · refine r_tableIn (off := 43) (tgt := 61) dX7_far_18 (by rw [e18_1]; decide) (by rw [e18_1]; decide) (by rw [e18_1]; rfl) (by decide) ?_
    refine r_iload_n dX7_far_61 rfl ?_
    refine r_iconst (v := 5) dX7_far_62 rfl ?_
    refine r_iadd dX7_far_63 ?_
    refine r_iconst (v := 0) dX7_far_64 rfl ?_
    refine r_bipush (v := 40) dX7_far_65 rfl ?_
    refine r_callS3 dX7_far_67 lk_X7_209 (Nat.le_of_ble_eq_true rfl) (sp_X7_bound ?_)
    refine r_ireturn dX7_far_70 rfl rfl ?_
    have K := h A1 f1
    unfold farF fV at K
    subst e13
    first | rwa [if_pos e18_0] at K | rwa [if_neg e18_0, if_pos e18_1] at K | rwa [if_neg e18_0, if_neg e18_1, if_pos e18_2, if_pos b72] at K | rwa [if_neg e18_0, if_neg e18_1, if_pos e18_2, if_neg b72] at K | rwa [if_neg e18_0, if_neg e18_1, if_neg e18_2, if_pos e18_3] at K | rwa [if_neg e18_0, if_neg e18_1, if_neg e18_2, if_neg e18_3] at K
  by_cases e18_2 : kd = 4
  · refine r_tableIn (off := 53) (tgt := 71) dX7_far_18 (by rw [e18_2]; decide) (by rw [e18_2]; decide) (by rw [e18_2]; rfl) (by decide) ?_
    refine r_iload_n dX7_far_71 rfl ?_
    refine r_if_ne (tgt := 79) dX7_far_72 (by decide) (fun b72 => ?_) (fun b72 => ?_)
    · refine r_iload_n dX7_far_79 rfl ?_
      refine r_aload_n dX7_far_80 rfl ?_
      refine r_getI dX7_far_81 fl_X7_190 (ly_38 hE) rfl ?_
      refine r_rw (y := nr) (by rw [e38]; exact k2) ?_
      refine r_isub dX7_far_84 ?_
      refine r_iconst (v := 0) dX7_far_85 rfl ?_
      refine r_bipush (v := 40) dX7_far_86 rfl ?_
      refine r_callS3 dX7_far_88 lk_X7_209 (Nat.le_of_ble_eq_true rfl) (sp_X7_bound ?_)
      refine r_ireturn dX7_far_91 rfl rfl ?_
      have K := h A1 f1
      unfold farF fV at K
      subst e13
      first | rwa [if_pos e18_0] at K | rwa [if_neg e18_0, if_pos e18_1] at K | rwa [if_neg e18_0, if_neg e18_1, if_pos e18_2, if_pos b72] at K | rwa [if_neg e18_0, if_neg e18_1, if_pos e18_2, if_neg b72] at K | rwa [if_neg e18_0, if_neg e18_1, if_neg e18_2, if_pos e18_3] at K | rwa [if_neg e18_0, if_neg e18_1, if_neg e18_2, if_neg e18_3] at K
    · refine r_iconst (v := 0) dX7_far_75 rfl ?_
      refine r_goto (tgt := 91) dX7_far_76 (by decide) ?_
      refine r_ireturn dX7_far_91 rfl rfl ?_
      have K := h A1 f1
      unfold farF fV at K
      subst e13
      first | rwa [if_pos e18_0] at K | rwa [if_neg e18_0, if_pos e18_1] at K | rwa [if_neg e18_0, if_neg e18_1, if_pos e18_2, if_pos b72] at K | rwa [if_neg e18_0, if_neg e18_1, if_pos e18_2, if_neg b72] at K | rwa [if_neg e18_0, if_neg e18_1, if_neg e18_2, if_pos e18_3] at K | rwa [if_neg e18_0, if_neg e18_1, if_neg e18_2, if_neg e18_3] at K
  by_cases e18_3 : kd = 5
  · refine r_tableIn (off := 74) (tgt := 92) dX7_far_18 (by rw [e18_3]; decide) (by rw [e18_3]; decide) (by rw [e18_3]; rfl) (by decide) ?_
    refine r_iconst (v := 4) dX7_far_92 rfl ?_
    refine r_aload_n dX7_far_93 rfl ?_
    refine r_getI dX7_far_94 fl_X7_190 (ly_38 hE) rfl ?_
    refine r_rw (y := nr) (by rw [e38]; exact k2) ?_
    refine r_imul dX7_far_97 ?_
    refine r_ireturn dX7_far_98 rfl rfl ?_
    have K := h A1 f1
    unfold farF fV at K
    subst e13
    first | rwa [if_pos e18_0] at K | rwa [if_neg e18_0, if_pos e18_1] at K | rwa [if_neg e18_0, if_neg e18_1, if_pos e18_2, if_pos b72] at K | rwa [if_neg e18_0, if_neg e18_1, if_pos e18_2, if_neg b72] at K | rwa [if_neg e18_0, if_neg e18_1, if_neg e18_2, if_pos e18_3] at K | rwa [if_neg e18_0, if_neg e18_1, if_neg e18_2, if_neg e18_3] at K
  refine r_tableOut (tgt := 99) dX7_far_18 (sw_2_5 e18_0 e18_1 e18_2 e18_3) (by decide) ?_
  refine r_iload_n dX7_far_99 rfl ?_
  refine r_ireturn dX7_far_100 rfl rfl ?_
  have K := h A1 f1
  unfold farF fV at K
  subst e13
  first | rwa [if_pos e18_0] at K | rwa [if_neg e18_0, if_pos e18_1] at K | rwa [if_neg e18_0, if_neg e18_1, if_pos e18_2, if_pos b72] at K | rwa [if_neg e18_0, if_neg e18_1, if_pos e18_2, if_neg b72] at K | rwa [if_neg e18_0, if_neg e18_1, if_neg e18_2, if_pos e18_3] at K | rwa [if_neg e18_0, if_neg e18_1, if_neg e18_2, if_neg e18_3] at K
theorem sp_X7_behindWord (hm : ME E A S T r kd nr) {a wd : Int32} (h : ∀ A', Fr [46] A A' → Ph (some (.int (bwF S r kd nr a wd))) A' L) : qC E mm_X7_behindWord (d + 4) [.ref 38, .int a, .int wd] A L Ph := by
  refine qC.enter (by decide) (Nat.le_of_ble_eq_true rfl) ?_
  have hE := hm.1
  refine r_iload_n dX7_behindWord_0 rfl ?_
  refine r_aload_n dX7_behindWord_1 rfl ?_
  refine r_iload_n dX7_behindWord_2 rfl ?_
  refine r_iload_n dX7_behindWord_3 rfl ?_
  refine r_callV2 dX7_behindWord_4 lk_X7_116 (ly_38 hE) rfl (Nat.le_of_ble_eq_true rfl) (sp_X7_heats hm (fun A1 f1 => ?_))
  refine r_iadd dX7_behindWord_7 ?_
  refine r_iconst (v := 0) dX7_behindWord_8 rfl ?_
  refine r_bipush (v := 99) dX7_behindWord_9 rfl ?_
  refine r_callS3 dX7_behindWord_11 lk_X7_209 (Nat.le_of_ble_eq_true rfl) (sp_X7_bound ?_)
  refine r_ireturn dX7_behindWord_14 rfl rfl ?_
  exact h A1 f1
theorem sp_X7_behindMinute (hm : ME E A S T r kd nr) {a : Int32} (h : ∀ A', Fr [46] A A' → Ph (some (.int (bmF S r kd nr a))) A' L) : qC E mm_X7_behindMinute (d + 4) [.ref 38, .int a] A L Ph := by
  refine qC.enter (by decide) (Nat.le_of_ble_eq_true rfl) ?_
  have hE := hm.1
  refine r_iload_n dX7_behindMinute_0 rfl ?_
  refine r_aload_n dX7_behindMinute_1 rfl ?_
  refine r_iload_n dX7_behindMinute_2 rfl ?_
  refine r_callV1 dX7_behindMinute_3 lk_X7_110 (ly_38 hE) rfl (Nat.le_of_ble_eq_true rfl) (sp_X7_cools hm (fun A1 f1 => ?_))
  refine r_isub dX7_behindMinute_6 ?_
  refine r_iconst (v := 0) dX7_behindMinute_7 rfl ?_
  refine r_bipush (v := 99) dX7_behindMinute_8 rfl ?_
  refine r_callS3 dX7_behindMinute_10 lk_X7_209 (Nat.le_of_ble_eq_true rfl) (sp_X7_bound ?_)
  refine r_ireturn dX7_behindMinute_13 rfl rfl ?_
  exact h A1 f1
theorem sp_X7_kind (hE : hM E) {p : Nat} (hp : p < 5) (h : Ph (some (.int (A 39 (40 + 4 * p)))) A L) : qC E mm_X7_kind d [.ref 38, .int (nI p)] A L Ph := by
  refine qC.enter (by decide) (Nat.le_of_ble_eq_true rfl) ?_
  refine r_aload_n dX7_kind_0 rfl ?_
  refine r_getR dX7_kind_1 fl_X7_7 (ly_38 hE) rfl ?_
  refine r_bipush (v := 40) dX7_kind_4 rfl ?_
  refine r_iconst (v := 4) dX7_kind_6 rfl ?_
  refine r_iload_n dX7_kind_7 rfl ?_
  refine r_imul dX7_kind_8 ?_
  refine r_iadd dX7_kind_9 ?_
  refine r_rw (y := nI (40 + 4 * p)) (show nI 40 + nI 4 * nI p = _ by rw [pk_mul, nI_add]) ?_
  refine r_ialdN dX7_kind_10 (ly_39 hE) (by omega) (by decide) ?_
  refine r_ireturn dX7_kind_11 rfl rfl ?_
  exact h
theorem sp_X7_number (hE : hM E) {p : Nat} (hp : p < 5) (h : Ph (some (.int (A 39 (41 + 4 * p)))) A L) : qC E mm_X7_number d [.ref 38, .int (nI p)] A L Ph := by
  refine qC.enter (by decide) (Nat.le_of_ble_eq_true rfl) ?_
  refine r_aload_n dX7_number_0 rfl ?_
  refine r_getR dX7_number_1 fl_X7_7 (ly_38 hE) rfl ?_
  refine r_bipush (v := 40) dX7_number_4 rfl ?_
  refine r_iconst (v := 4) dX7_number_6 rfl ?_
  refine r_iload_n dX7_number_7 rfl ?_
  refine r_imul dX7_number_8 ?_
  refine r_iadd dX7_number_9 ?_
  refine r_iconst (v := 1) dX7_number_10 rfl ?_
  refine r_iadd dX7_number_11 ?_
  refine r_rw (y := nI (41 + 4 * p)) (show nI 40 + nI 4 * nI p + nI 1 = _ by rw [pk_mul, nI_add, nI_add, show 40 + 4 * p + 1 = 41 + 4 * p by omega]) ?_
  refine r_ialdN dX7_number_12 (ly_39 hE) (by omega) (by decide) ?_
  refine r_ireturn dX7_number_13 rfl rfl ?_
  exact h
theorem sp_X7_anger (hE : hM E) {p : Nat} (hp : p < 5) (h : Ph (some (.int (A 39 (42 + 4 * p)))) A L) : qC E mm_X7_anger d [.ref 38, .int (nI p)] A L Ph := by
  refine qC.enter (by decide) (Nat.le_of_ble_eq_true rfl) ?_
  refine r_aload_n dX7_anger_0 rfl ?_
  refine r_getR dX7_anger_1 fl_X7_7 (ly_38 hE) rfl ?_
  refine r_bipush (v := 40) dX7_anger_4 rfl ?_
  refine r_iconst (v := 4) dX7_anger_6 rfl ?_
  refine r_iload_n dX7_anger_7 rfl ?_
  refine r_imul dX7_anger_8 ?_
  refine r_iadd dX7_anger_9 ?_
  refine r_iconst (v := 2) dX7_anger_10 rfl ?_
  refine r_iadd dX7_anger_11 ?_
  refine r_rw (y := nI (42 + 4 * p)) (show nI 40 + nI 4 * nI p + nI 2 = _ by rw [pk_mul, nI_add, nI_add, show 40 + 4 * p + 2 = 42 + 4 * p by omega]) ?_
  refine r_ialdN dX7_anger_12 (ly_39 hE) (by omega) (by decide) ?_
  refine r_ireturn dX7_anger_13 rfl rfl ?_
  exact h
theorem sp_X7_isPair (hE : hM E) {v : Int32} (n : Nat) (hn : n ≤ 5) (h60 : A 39 60 = nI n) (h1 : ∀ p, p < n → v = nI p → Ph (some (.int 1)) A L) (h0 : (∀ p, p < n → v ≠ nI p) → Ph (some (.int 0)) A L) : qC E mm_X7_isPair (d + 1) [.ref 38, .int v] A L Ph := by
  refine qC.enter (by decide) (Nat.le_of_ble_eq_true rfl) ?_
  refine r_iload_n dX7_isPair_0 rfl ?_
  refine r_iconst (v := 0) dX7_isPair_1 rfl ?_
  refine r_aload_n dX7_isPair_2 rfl ?_
  refine r_getR dX7_isPair_3 fl_X7_7 (ly_38 hE) rfl ?_
  refine r_bipush (v := (nI 60)) dX7_isPair_6 rfl ?_
  refine r_ialdN dX7_isPair_8 (ly_39 hE) (by decide) (by decide) ?_
  refine r_rw (y := nI n) h60 ?_
  refine r_iconst (v := 1) dX7_isPair_9 rfl ?_
  refine r_isub dX7_isPair_10 ?_
  refine r_callS3 dX7_isPair_11 lk_X7_78 (Nat.le_of_ble_eq_true rfl) (sp_isIn0 n rfl rfl (by omega) (fun j hj ej => ?_) (fun hj => ?_))
  · refine r_ireturn dX7_isPair_14 rfl (by decide) ?_
    first | exact h1 j hj ej | exact h0 hj
  · refine r_ireturn dX7_isPair_14 rfl (by decide) ?_
    first | exact h1 j hj ej | exact h0 hj
set_option maxRecDepth 100000 in
set_option maxHeartbeats 4000000 in
theorem things_loop (hE : hM E) : ∀ (n i : Nat), i + n = 40 → (Ph (some (.int (nI (cnz (A 39) 40)))) A L) → qG E mm_X7_things d 4 [(2, .int (nI i)), (1, .int (nI (cnz (A 39) i))), (0, .ref 38)] [] A L Ph := by
  intro n
  induction n with
  | zero =>
    intro i hi h
    have hi : i = 40 := by omega
    subst hi
    refine r_iload_n dX7_things_4 rfl ?_
    refine r_bipush (v := 40) dX7_things_5 rfl ?_
    refine r_icmp_ge (tgt := 33) dX7_things_7 (by decide) (fun _ => ?_) (fun hn => absurd (nI_le (Nat.le_refl 40) (by decide)) hn)
    refine r_iload_n dX7_things_33 rfl ?_
    refine r_ireturn dX7_things_34 rfl rfl ?_
    exact h
  | succ n ih =>
    intro i hi h
    refine r_iload_n dX7_things_4 rfl ?_
    refine r_bipush (v := 40) dX7_things_5 rfl ?_
    refine r_icmp_ge (tgt := 33) dX7_things_7 (by decide) (fun hn => absurd hn (nI_ge (show i < 40 by omega) (by decide))) (fun _ => ?_)
    refine r_iload_n dX7_things_10 rfl ?_
    refine r_aload_n dX7_things_11 rfl ?_
    refine r_getR dX7_things_12 fl_X7_7 (ly_38 hE) rfl ?_
    refine r_iload_n dX7_things_15 rfl ?_
    refine r_ialdN dX7_things_16 (ly_39 hE) (by omega) (by decide) ?_
    refine r_if_eq (tgt := 24) dX7_things_17 (by decide) (fun b17 => ?_) (fun b17 => ?_)
    · refine r_iconst (v := 0) dX7_things_24 rfl ?_
      refine r_iadd dX7_things_25 ?_
      first | refine r_rw (y := nI (cnz (A 39) (i + 1))) (show nI (cnz (A 39) i) + nI 1 = _ by rw [nI_add, cnz, if_pos b17]) ?_ | refine r_rw (y := nI (cnz (A 39) (i + 1))) (show nI (cnz (A 39) i) + nI 0 = _ by rw [nI_add, cnz, if_neg (fun z => z b17)]) ?_
      refine r_istore_n (loc' := [(1, .int (nI (cnz (A 39) (i + 1)))), (2, .int (nI i)), (0, .ref 38)]) dX7_things_26 (by decide) rfl ?_
      refine r_iinc (v := (nI (i + 1))) (loc' := [(2, .int (nI (i + 1))), (1, .int (nI (cnz (A 39) (i + 1)))), (0, .ref 38)]) dX7_things_27 rfl ((nI_succ _).symm) (by decide) rfl ?_
      refine r_goto (tgt := 4) dX7_things_30 (by decide) ?_
      refine qG.pick [0, 1, 2] rfl ?_
      exact ih (i + 1) (by omega) h
    · refine r_iconst (v := 1) dX7_things_20 rfl ?_
      refine r_goto (tgt := 25) dX7_things_21 (by decide) ?_
      refine r_iadd dX7_things_25 ?_
      first | refine r_rw (y := nI (cnz (A 39) (i + 1))) (show nI (cnz (A 39) i) + nI 1 = _ by rw [nI_add, cnz, if_pos b17]) ?_ | refine r_rw (y := nI (cnz (A 39) (i + 1))) (show nI (cnz (A 39) i) + nI 0 = _ by rw [nI_add, cnz, if_neg (fun z => z b17)]) ?_
      refine r_istore_n (loc' := [(1, .int (nI (cnz (A 39) (i + 1)))), (2, .int (nI i)), (0, .ref 38)]) dX7_things_26 (by decide) rfl ?_
      refine r_iinc (v := (nI (i + 1))) (loc' := [(2, .int (nI (i + 1))), (1, .int (nI (cnz (A 39) (i + 1)))), (0, .ref 38)]) dX7_things_27 rfl ((nI_succ _).symm) (by decide) rfl ?_
      refine r_goto (tgt := 4) dX7_things_30 (by decide) ?_
      refine qG.pick [0, 1, 2] rfl ?_
      exact ih (i + 1) (by omega) h
theorem sp_X7_things (hE : hM E) (h : Ph (some (.int (nI (cnz (A 39) 40)))) A L) : qC E mm_X7_things d [.ref 38] A L Ph := by
  refine qC.enter (by decide) (Nat.le_of_ble_eq_true rfl) ?_
  refine r_iconst (v := 0) dX7_things_0 rfl ?_
  refine r_istore_n (loc' := [(1, .int 0), (0, .ref 38)]) dX7_things_1 (by decide) rfl ?_
  refine r_iconst (v := 0) dX7_things_2 rfl ?_
  refine r_istore_n (loc' := [(2, .int 0), (1, .int 0), (0, .ref 38)]) dX7_things_3 (by decide) rfl ?_
  exact things_loop hE 40 0 rfl h
set_option maxRecDepth 100000 in
set_option maxHeartbeats 4000000 in
/-- take: a pair is taken; nothing that lasts changes -/
theorem sp_X7_take (hE : hM E) (hR : RM A S T) {p : Nat} (hp : p < 5) (h : ∀ A', Fr [38] A A' → FM A A' → RM A' S T → (∀ r, S 39 62 = nI r → MT A' S r (S 39 (40 + 4 * p)) (S 39 (41 + 4 * p))) → Ph none A' L) : qC E mm_X7_take (d + 1) [.ref 38, .int (nI p)] A L Ph := by
  refine qC.enter (by decide) (Nat.le_of_ble_eq_true rfl) ?_
  refine r_aload_n dX7_take_0 rfl ?_
  refine r_aload_n dX7_take_1 rfl ?_
  refine r_iload_n dX7_take_2 rfl ?_
  refine r_callV1 dX7_take_3 lk_X7_107 (ly_38 hE) rfl (Nat.le_of_ble_eq_true rfl) (sp_X7_kind hE hp ?_)
  refine r_putI dX7_take_6 fl_X7_200 fp_7_17 (ly_38 hE) rfl rfl rfl ?_
  refine r_aload_n dX7_take_9 rfl ?_
  refine r_aload_n dX7_take_10 rfl ?_
  refine r_iload_n dX7_take_11 rfl ?_
  refine r_callV1 dX7_take_12 lk_X7_104 (ly_38 hE) rfl (Nat.le_of_ble_eq_true rfl) (sp_X7_number hE hp ?_)
  refine r_putI dX7_take_15 fl_X7_190 fp_7_18 (ly_38 hE) rfl rfl rfl ?_
  refine r_aload_n dX7_take_18 rfl ?_
  refine r_aload_n dX7_take_19 rfl ?_
  refine r_getR dX7_take_20 fl_X7_7 (ly_38 hE) rfl ?_
  refine r_bipush (v := (nI 62)) dX7_take_23 rfl ?_
  refine r_ialdN dX7_take_25 (ly_39 hE) (by decide) (by decide) ?_
  refine r_putI dX7_take_26 fl_X7_187 fp_7_19 (ly_38 hE) rfl rfl rfl ?_
  refine r_aload_n dX7_take_29 rfl ?_
  refine r_aload_n dX7_take_30 rfl ?_
  refine r_callV0 dX7_take_31 lk_X7_203 (ly_38 hE) rfl (Nat.le_of_ble_eq_true rfl) (sp_X7_things hE ?_)
  refine r_putI dX7_take_34 fl_X7_193 fp_7_20 (ly_38 hE) rfl rfl rfl ?_
  refine r_return dX7_take_37 rfl ?_
  have r39 := hR.1
  refine h _ ((Fr.s2 (by decide)).tr ((Fr.s2 (by decide)).tr ((Fr.s2 (by decide)).tr (Fr.s2 (by decide))))) ((FM.sc (by decide) (by decide) (by decide)).tr ((FM.sc (by decide) (by decide) (by decide)).tr ((FM.sc (by decide) (by decide) (by decide)).tr (FM.sc (by decide) (by decide) (by decide))))) (hR.fm ((FM.sc (by decide) (by decide) (by decide)).tr ((FM.sc (by decide) (by decide) (by decide)).tr ((FM.sc (by decide) (by decide) (by decide)).tr (FM.sc (by decide) (by decide) (by decide)))))) (fun r er => ⟨?_, ?_, ?_, ?_⟩)
  · rw [s2_nj (fun _ => by decide), s2_nj (fun _ => by decide), s2_nj (fun _ => by decide), s2_same, r39]
  · rw [s2_nj (fun _ => by decide), s2_nj (fun _ => by decide), s2_same, s2_ne (by decide), r39]
  · rw [s2_nj (fun _ => by decide), s2_same, s2_ne (by decide), s2_ne (by decide), r39, er]
  · rw [s2_same, s2_ne (by decide), s2_ne (by decide), s2_ne (by decide), r39]
end REVAL
