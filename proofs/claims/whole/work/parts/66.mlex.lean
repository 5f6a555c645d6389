/-! the reference reads a token -/
def F8 (X : List Nat) (A A' : mA) : Prop := Fr [38] A A' ∧ ∀ j, j ∉ X → A' 38 j = A 38 j
theorem F8.rf {X : List Nat} {A : mA} : F8 X A A := ⟨Fr.rf, fun _ _ => rfl⟩
theorem F8.tr {X : List Nat} {A B C : mA} (h1 : F8 X A B) (h2 : F8 X B C) : F8 X A C := ⟨h1.1.tr h2.1, fun j hj => (h2.2 j hj).trans (h1.2 j hj)⟩
theorem F8.mo {X Y : List Nat} {A B : mA} (h : F8 X A B) (hs : ∀ k, k ∈ X → k ∈ Y) : F8 Y A B := ⟨h.1, fun j hj => h.2 j (fun z => hj (hs j z))⟩
theorem F8.st {X : List Nat} {A : mA} {j : Nat} {v : Int32} (h : j ∈ X) : F8 X A (s2 A 38 j v) := ⟨Fr.s2 (by decide), fun q hq => s2_nj (fun _ e => hq (e ▸ h))⟩
def MK (A : mA) (f : Nat → Int32) (z i : Nat) : Prop := A 38 4 = nI z ∧ (∀ j, j < z → A 41 j = f j) ∧ A 38 5 = nI (tE f z (i + 1)) ∧ A 38 6 = nI (tS f z i) ∧ A 38 7 = nI (so f z (tS f z i))
noncomputable def wv (f : Nat → Int32) (z i : Nat) : Int32 := if so f z (tS f z i) = 1 then wdF f (tS f z i) (tE f z (i + 1)) 12 else -1
theorem wv_tk {f : Nat → Int32} {z i : Nat} (hf : ∀ j, j < z → ∃ b, b < 256 ∧ f j = nI b) : (∃ k, k < 12 ∧ tk f z i = nI k ∧ wv f z i = nI k) ∨ (wv f z i = -1 ∧ ∀ k, k < 12 → tk f z i ≠ nI k) := by
  unfold wv tk
  rw [tE_s]
  rcases tk_cases (s := tS f z i) hf with ⟨c0, c⟩ | ⟨c0, ⟨c, cw⟩ | ⟨k, hk, c, cw⟩⟩ | ⟨c0, ⟨c4, c⟩ | ⟨_, c⟩⟩ | ⟨c0, b, hb, _, ⟨hi, c⟩ | ⟨_, c⟩⟩
  · exact Or.inr ⟨if_neg (by omega), fun k hk e => absurd ((nI_eq (a := 301) (by decide) (by omega)).mp (c.symm.trans e)) (by omega)⟩
  · exact Or.inr ⟨by rw [if_pos c0]; exact cw, fun k hk e => absurd ((nI_eq (a := 302) (by decide) (by omega)).mp (c.symm.trans e)) (by omega)⟩
  · exact Or.inl ⟨k, hk, c, by rw [if_pos c0]; exact cw⟩
  · exact Or.inr ⟨if_neg (by omega), fun k hk e => absurd ((nI_eq (a := 300) (by decide) (by omega)).mp (c.symm.trans e)) (by omega)⟩
  · exact Or.inr ⟨if_neg (by omega), fun k hk e => absurd ((nI_eq (a := 302) (by decide) (by omega)).mp (c.symm.trans e)) (by omega)⟩
  · have := inS_rng b hb hi
    exact Or.inr ⟨if_neg (by omega), fun k hk e => absurd ((nI_eq (a := b) (by omega) (by omega)).mp (c.symm.trans e)) (by omega)⟩
  · exact Or.inr ⟨if_neg (by omega), fun k hk e => absurd ((nI_eq (a := 302) (by decide) (by omega)).mp (c.symm.trans e)) (by omega)⟩
theorem sg_tk {f : Nat → Int32} {z i b : Nat} (hf : ∀ j, j < z → ∃ b, b < 256 ∧ f j = nI b) (hb : b < 256) (hi : inS b = true) : (so f z (tS f z i) = 3 ∧ f (tS f z i) = nI b) ↔ tk f z i = nI b := by
  have hr := inS_rng b hb hi
  unfold tk
  rcases tk_cases (s := tS f z i) hf with ⟨c0, c⟩ | ⟨c0, ⟨c, cw⟩ | ⟨k, hk, c, cw⟩⟩ | ⟨c0, ⟨c4, c⟩ | ⟨_, c⟩⟩ | ⟨c0, b', hb', e, ⟨hi', c⟩ | ⟨hn, c⟩⟩
  · exact ⟨fun q => by omega, fun q => absurd ((nI_eq (a := 301) (by decide) (by omega)).mp (c.symm.trans q)) (by omega)⟩
  · exact ⟨fun q => by omega, fun q => absurd ((nI_eq (a := 302) (by decide) (by omega)).mp (c.symm.trans q)) (by omega)⟩
  · exact ⟨fun q => by omega, fun q => absurd ((nI_eq (a := k) (by omega) (by omega)).mp (c.symm.trans q)) (by omega)⟩
  · exact ⟨fun q => by omega, fun q => absurd ((nI_eq (a := 300) (by decide) (by omega)).mp (c.symm.trans q)) (by omega)⟩
  · exact ⟨fun q => by omega, fun q => absurd ((nI_eq (a := 302) (by decide) (by omega)).mp (c.symm.trans q)) (by omega)⟩
  · exact ⟨fun q => by rw [c, ← e]; exact q.2, fun q => ⟨c0, by rw [e, ← c]; exact q⟩⟩
  · refine ⟨fun q => ?_, fun q => absurd ((nI_eq (a := 302) (by decide) (by omega)).mp (c.symm.trans q)) (by omega)⟩
    have := (nI_eq (a := b') (b := b) (by omega) (by omega)).mp (e.symm.trans q.2)
    rw [this] at hn
    exact absurd hi hn
theorem nm_tk {f : Nat → Int32} {z i : Nat} (hf : ∀ j, j < z → ∃ b, b < 256 ∧ f j = nI b) : (so f z (tS f z i) = 2 ∧ tE f z (i + 1) - tS f z i ≤ 4) ↔ tk f z i = 300 := by
  unfold tk
  rw [tE_s]
  rcases tk_cases (s := tS f z i) hf with ⟨c0, c⟩ | ⟨c0, ⟨c, cw⟩ | ⟨k, hk, c, cw⟩⟩ | ⟨c0, ⟨c4, c⟩ | ⟨c4, c⟩⟩ | ⟨c0, b, hb, _, ⟨hi, c⟩ | ⟨_, c⟩⟩
  · exact ⟨fun q => by omega, fun q => absurd (c.symm.trans q) (by decide)⟩
  · exact ⟨fun q => by omega, fun q => absurd (c.symm.trans q) (by decide)⟩
  · exact ⟨fun q => by omega, fun q => absurd ((nI_eq (b := 300) (by omega) (by decide)).mp (c.symm.trans q)) (by omega)⟩
  · exact ⟨fun _ => c, fun _ => ⟨c0, c4⟩⟩
  · exact ⟨fun q => absurd q.2 c4, fun q => absurd (c.symm.trans q) (by decide)⟩
  · have := inS_rng b hb hi
    exact ⟨fun q => by omega, fun q => absurd ((nI_eq (b := 300) (by omega) (by decide)).mp (c.symm.trans q)) (by omega)⟩
  · exact ⟨fun q => by omega, fun q => absurd (c.symm.trans q) (by decide)⟩
theorem en_tk {f : Nat → Int32} {z i : Nat} (hf : ∀ j, j < z → ∃ b, b < 256 ∧ f j = nI b) : so f z (tS f z i) = 0 ↔ tk f z i = 301 := by
  unfold tk
  rcases tk_cases (s := tS f z i) hf with ⟨c0, c⟩ | ⟨c0, ⟨c, cw⟩ | ⟨k, hk, c, cw⟩⟩ | ⟨c0, ⟨c4, c⟩ | ⟨c4, c⟩⟩ | ⟨c0, b, hb, _, ⟨hi, c⟩ | ⟨_, c⟩⟩
  · exact ⟨fun _ => c, fun _ => c0⟩
  · exact ⟨fun q => by omega, fun q => absurd (c.symm.trans q) (by decide)⟩
  · exact ⟨fun q => by omega, fun q => absurd ((nI_eq (b := 301) (by omega) (by decide)).mp (c.symm.trans q)) (by omega)⟩
  · exact ⟨fun q => by omega, fun q => absurd (c.symm.trans q) (by decide)⟩
  · exact ⟨fun q => by omega, fun q => absurd (c.symm.trans q) (by decide)⟩
  · have := inS_rng b hb hi
    exact ⟨fun q => by omega, fun q => absurd ((nI_eq (b := 301) (by omega) (by decide)).mp (c.symm.trans q)) (by omega)⟩
  · exact ⟨fun q => by omega, fun q => absurd (c.symm.trans q) (by decide)⟩
section MLEX
variable {E : mE} {d : Nat} {A S : mA} {L : mJ} {Ph : mP} {f : Nat → Int32} {z i : Nat}
set_option maxRecDepth 100000 in
set_option maxHeartbeats 1000000 in
theorem sp_sortAt (hE : hM E) (hz : z ≤ 160) {p : Nat} (hp : p ≤ z) (h4 : A 38 4 = nI z) (h41 : ∀ j, j < z → A 41 j = f j) (h : Ph (some (.int (nI (so f z p)))) A L) : qC E mm_X7_sortAt (d + 1) [.ref 38, .int (nI p)] A L Ph := by
  rcases Nat.eq_or_lt_of_le hp with e | hp
  · rw [so_0.mpr (by omega)] at h
    refine qC.enter (by decide) (Nat.le_of_ble_eq_true rfl) ?_
    refine r_iload_n dX7_sortAt_0 rfl ?_
    refine r_aload_n dX7_sortAt_1 rfl ?_
    refine r_getI dX7_sortAt_2 fl_X7_119 (ly_38 hE) rfl ?_
    refine r_rw (y := nI z) h4 ?_
    refine r_icmp_lt (tgt := 12) dX7_sortAt_5 (by decide) (fun hqz => absurd hqz (i_nle (nI_le (by omega) (by omega)))) (fun _ => ?_)
    refine r_iconst (v := 0) dX7_sortAt_8 rfl ?_
    refine r_goto (tgt := 53) dX7_sortAt_9 (by decide) ?_
    refine r_ireturn dX7_sortAt_53 rfl rfl ?_
    exact h
  · by_cases hl : isl (f p) = true
    · rw [(so_1 hp).mpr hl] at h
      have hl := of_decide_eq_true hl
      refine qC.enter (by decide) (Nat.le_of_ble_eq_true rfl) ?_
      refine r_iload_n dX7_sortAt_0 rfl ?_
      refine r_aload_n dX7_sortAt_1 rfl ?_
      refine r_getI dX7_sortAt_2 fl_X7_119 (ly_38 hE) rfl ?_
      refine r_rw (y := nI z) h4 ?_
      refine r_icmp_lt (tgt := 12) dX7_sortAt_5 (by decide) (fun _ => ?_) (fun hqz => absurd (nI_lt hp (by omega)) hqz)
      refine r_aload_n dX7_sortAt_12 rfl ?_
      refine r_getR dX7_sortAt_13 fl_X7_16 (ly_38 hE) rfl ?_
      refine r_iload_n dX7_sortAt_16 rfl ?_
      refine r_ialdN dX7_sortAt_17 (ly_41 hE) (by omega) (by decide) ?_
      refine r_rw (y := f p) (h41 p hp) ?_
      refine r_bipush (v := 97) dX7_sortAt_18 rfl ?_
      refine r_bipush (v := 122) dX7_sortAt_20 rfl ?_
      refine r_callS3 dX7_sortAt_22 lk_X7_78 (Nat.le_of_ble_eq_true rfl) (sp_X7_isIn (fun _ _ => ?_) (fun q => absurd q (fun y => y.elim (i_nle hl.1) (i_nle hl.2))))
      refine r_if_eq (tgt := 32) dX7_sortAt_25 (by decide) (fun hqz => absurd hqz (by decide)) (fun _ => ?_)
      refine r_iconst (v := 1) dX7_sortAt_28 rfl ?_
      refine r_goto (tgt := 53) dX7_sortAt_29 (by decide) ?_
      refine r_ireturn dX7_sortAt_53 rfl rfl ?_
      exact h
    · by_cases hd : isd (f p) = true
      · rw [(so_2 hp).mpr hd] at h
        have hd := of_decide_eq_true hd
        refine qC.enter (by decide) (Nat.le_of_ble_eq_true rfl) ?_
        refine r_iload_n dX7_sortAt_0 rfl ?_
        refine r_aload_n dX7_sortAt_1 rfl ?_
        refine r_getI dX7_sortAt_2 fl_X7_119 (ly_38 hE) rfl ?_
        refine r_rw (y := nI z) h4 ?_
        refine r_icmp_lt (tgt := 12) dX7_sortAt_5 (by decide) (fun _ => ?_) (fun hqz => absurd (nI_lt hp (by omega)) hqz)
        refine r_aload_n dX7_sortAt_12 rfl ?_
        refine r_getR dX7_sortAt_13 fl_X7_16 (ly_38 hE) rfl ?_
        refine r_iload_n dX7_sortAt_16 rfl ?_
        refine r_ialdN dX7_sortAt_17 (ly_41 hE) (by omega) (by decide) ?_
        refine r_rw (y := f p) (h41 p hp) ?_
        refine r_bipush (v := 97) dX7_sortAt_18 rfl ?_
        refine r_bipush (v := 122) dX7_sortAt_20 rfl ?_
        refine r_callS3 dX7_sortAt_22 lk_X7_78 (Nat.le_of_ble_eq_true rfl) (sp_X7_isIn (fun q1 q2 => absurd (decide_eq_true ⟨q1, q2⟩) hl) (fun _ => ?_))
        refine r_if_eq (tgt := 32) dX7_sortAt_25 (by decide) (fun _ => ?_) (fun hqz => absurd (by decide) hqz)
        refine r_aload_n dX7_sortAt_32 rfl ?_
        refine r_getR dX7_sortAt_33 fl_X7_16 (ly_38 hE) rfl ?_
        refine r_iload_n dX7_sortAt_36 rfl ?_
        refine r_ialdN dX7_sortAt_37 (ly_41 hE) (by omega) (by decide) ?_
        refine r_rw (y := f p) (h41 p hp) ?_
        refine r_bipush (v := 48) dX7_sortAt_38 rfl ?_
        refine r_bipush (v := 57) dX7_sortAt_40 rfl ?_
        refine r_callS3 dX7_sortAt_42 lk_X7_78 (Nat.le_of_ble_eq_true rfl) (sp_X7_isIn (fun _ _ => ?_) (fun q => absurd q (fun y => y.elim (i_nle hd.1) (i_nle hd.2))))
        refine r_if_eq (tgt := 52) dX7_sortAt_45 (by decide) (fun hqz => absurd hqz (by decide)) (fun _ => ?_)
        refine r_iconst (v := 2) dX7_sortAt_48 rfl ?_
        refine r_goto (tgt := 53) dX7_sortAt_49 (by decide) ?_
        refine r_ireturn dX7_sortAt_53 rfl rfl ?_
        exact h
      · have h3 : so f z p = 3 := by
          rcases so_4 f z p with q | q | q | q
          · have := so_0.mp q; omega
          · exact absurd ((so_1 hp).mp q) hl
          · exact absurd ((so_2 hp).mp q) hd
          · exact q
        rw [h3] at h
        refine qC.enter (by decide) (Nat.le_of_ble_eq_true rfl) ?_
        refine r_iload_n dX7_sortAt_0 rfl ?_
        refine r_aload_n dX7_sortAt_1 rfl ?_
        refine r_getI dX7_sortAt_2 fl_X7_119 (ly_38 hE) rfl ?_
        refine r_rw (y := nI z) h4 ?_
        refine r_icmp_lt (tgt := 12) dX7_sortAt_5 (by decide) (fun _ => ?_) (fun hqz => absurd (nI_lt hp (by omega)) hqz)
        refine r_aload_n dX7_sortAt_12 rfl ?_
        refine r_getR dX7_sortAt_13 fl_X7_16 (ly_38 hE) rfl ?_
        refine r_iload_n dX7_sortAt_16 rfl ?_
        refine r_ialdN dX7_sortAt_17 (ly_41 hE) (by omega) (by decide) ?_
        refine r_rw (y := f p) (h41 p hp) ?_
        refine r_bipush (v := 97) dX7_sortAt_18 rfl ?_
        refine r_bipush (v := 122) dX7_sortAt_20 rfl ?_
        refine r_callS3 dX7_sortAt_22 lk_X7_78 (Nat.le_of_ble_eq_true rfl) (sp_X7_isIn (fun q1 q2 => absurd (decide_eq_true ⟨q1, q2⟩) hl) (fun _ => ?_))
        refine r_if_eq (tgt := 32) dX7_sortAt_25 (by decide) (fun _ => ?_) (fun hqz => absurd (by decide) hqz)
        refine r_aload_n dX7_sortAt_32 rfl ?_
        refine r_getR dX7_sortAt_33 fl_X7_16 (ly_38 hE) rfl ?_
        refine r_iload_n dX7_sortAt_36 rfl ?_
        refine r_ialdN dX7_sortAt_37 (ly_41 hE) (by omega) (by decide) ?_
        refine r_rw (y := f p) (h41 p hp) ?_
        refine r_bipush (v := 48) dX7_sortAt_38 rfl ?_
        refine r_bipush (v := 57) dX7_sortAt_40 rfl ?_
        refine r_callS3 dX7_sortAt_42 lk_X7_78 (Nat.le_of_ble_eq_true rfl) (sp_X7_isIn (fun q1 q2 => absurd (decide_eq_true ⟨q1, q2⟩) hd) (fun _ => ?_))
        refine r_if_eq (tgt := 52) dX7_sortAt_45 (by decide) (fun _ => ?_) (fun hqz => absurd (by decide) hqz)
        refine r_iconst (v := 3) dX7_sortAt_52 rfl ?_
        refine r_ireturn dX7_sortAt_53 rfl rfl ?_
        exact h
set_option maxRecDepth 100000 in
set_option maxHeartbeats 1000000 in
theorem mb_loop (hE : hM E) (hz : z ≤ 160) : ∀ (k p : Nat) (A : mA), p + k = z → A 38 4 = nI z → (∀ j, j < z → A 41 j = f j) → A 38 5 = nI p → (∀ A', F8 [5] A A' → A' 38 5 = nI (rn isb f z k p) → qG E mm_X7_next (d + 2) 52 [(0, .ref 38)] [] A' L Ph) → qG E mm_X7_next (d + 2) 0 [(0, .ref 38)] [] A L Ph := by
  intro k
  induction k with
  | zero =>
    intro p A hp h4 h41 h5 h
    have hp : p = z := by omega
    subst hp
    refine r_aload_n dX7_next_0 rfl ?_
    refine r_getI dX7_next_1 fl_X7_122 (ly_38 hE) rfl ?_
    refine r_rw (y := nI p) h5 ?_
    refine r_aload_n dX7_next_4 rfl ?_
    refine r_getI dX7_next_5 fl_X7_119 (ly_38 hE) rfl ?_
    refine r_rw (y := nI p) h4 ?_
    refine r_icmp_ge (tgt := 52) dX7_next_8 (by decide) (fun _ => ?_) (fun hqz => absurd (nI_le (Nat.le_refl _) (by omega)) hqz)
    refine qG.pick [0] rfl ?_
    exact h A F8.rf h5
  | succ k ih =>
    intro p A hp h4 h41 h5 h
    have hpz : p < z := by omega
    refine r_aload_n dX7_next_0 rfl ?_
    refine r_getI dX7_next_1 fl_X7_122 (ly_38 hE) rfl ?_
    refine r_rw (y := nI p) h5 ?_
    refine r_aload_n dX7_next_4 rfl ?_
    refine r_getI dX7_next_5 fl_X7_119 (ly_38 hE) rfl ?_
    refine r_rw (y := nI z) h4 ?_
    refine r_icmp_ge (tgt := 52) dX7_next_8 (by decide) (fun hqz => absurd hqz (nI_ge hpz (by omega))) (fun _ => ?_)
    refine r_aload_n dX7_next_11 rfl ?_
    refine r_getR dX7_next_12 fl_X7_16 (ly_38 hE) rfl ?_
    refine r_aload_n dX7_next_15 rfl ?_
    refine r_getI dX7_next_16 fl_X7_122 (ly_38 hE) rfl ?_
    refine r_rw (y := nI p) h5 ?_
    refine r_ialdN dX7_next_19 (ly_41 hE) (by omega) (by decide) ?_
    refine r_rw (y := f p) (h41 p hpz) ?_
    refine r_bipush (v := 32) dX7_next_20 rfl ?_
    refine r_icmp_eq (tgt := 39) dX7_next_22 (by decide) (fun b22 => ?_) (fun b22 => ?_)
    · refine r_aload_n dX7_next_39 rfl ?_
      refine r_dup dX7_next_40 rfl ?_
      refine r_getI dX7_next_41 fl_X7_122 (ly_38 hE) rfl ?_
      refine r_rw (y := nI p) h5 ?_
      refine r_iconst (v := 1) dX7_next_44 rfl ?_
      refine r_iadd dX7_next_45 ?_
      refine r_rw (y := nI (p + 1)) (nI_1 p) ?_
      refine r_putI dX7_next_46 fl_X7_122 fp_7_5 (ly_38 hE) rfl rfl rfl ?_
      refine r_goto (tgt := 0) dX7_next_49 (by decide) ?_
      refine qG.pick [0] rfl ?_
      have hb : isb (f p) = true := by first | exact decide_eq_true (Or.inl b22) | exact decide_eq_true (Or.inr b36)
      rw [rn_go ⟨hpz, hb⟩] at h
      exact ih (p + 1) _ (by omega) (by rw [s2_nj (fun _ => by decide)]; exact h4) (fun j hj => by rw [s2_ne (by decide)]; exact h41 j hj) s2_same (fun A' f1 e => h A' ((F8.st (by decide)).tr f1) e)
    · refine r_aload_n dX7_next_25 rfl ?_
      refine r_getR dX7_next_26 fl_X7_16 (ly_38 hE) rfl ?_
      refine r_aload_n dX7_next_29 rfl ?_
      refine r_getI dX7_next_30 fl_X7_122 (ly_38 hE) rfl ?_
      refine r_rw (y := nI p) h5 ?_
      refine r_ialdN dX7_next_33 (ly_41 hE) (by omega) (by decide) ?_
      refine r_rw (y := f p) (h41 p hpz) ?_
      refine r_bipush (v := 10) dX7_next_34 rfl ?_
      refine r_icmp_ne (tgt := 52) dX7_next_36 (by decide) (fun b36 => ?_) (fun b36 => ?_)
      · refine qG.pick [0] rfl ?_
        have hb : ¬ isb (f p) = true := fun q => (of_decide_eq_true q).elim b22 b36
        rw [rn_no (fun q => hb q.2)] at h
        exact h A F8.rf h5
      · refine r_aload_n dX7_next_39 rfl ?_
        refine r_dup dX7_next_40 rfl ?_
        refine r_getI dX7_next_41 fl_X7_122 (ly_38 hE) rfl ?_
        refine r_rw (y := nI p) h5 ?_
        refine r_iconst (v := 1) dX7_next_44 rfl ?_
        refine r_iadd dX7_next_45 ?_
        refine r_rw (y := nI (p + 1)) (nI_1 p) ?_
        refine r_putI dX7_next_46 fl_X7_122 fp_7_5 (ly_38 hE) rfl rfl rfl ?_
        refine r_goto (tgt := 0) dX7_next_49 (by decide) ?_
        refine qG.pick [0] rfl ?_
        have hb : isb (f p) = true := by first | exact decide_eq_true (Or.inl b22) | exact decide_eq_true (Or.inr b36)
        rw [rn_go ⟨hpz, hb⟩] at h
        exact ih (p + 1) _ (by omega) (by rw [s2_nj (fun _ => by decide)]; exact h4) (fun j hj => by rw [s2_ne (by decide)]; exact h41 j hj) s2_same (fun A' f1 e => h A' ((F8.st (by decide)).tr f1) e)
set_option maxRecDepth 100000 in
set_option maxHeartbeats 1000000 in
theorem mn_loop1 (hE : hM E) (hz : z ≤ 160) : ∀ (k p : Nat) (A : mA), p + k = z → A 38 4 = nI z → (∀ j, j < z → A 41 j = f j) → A 38 5 = nI p → A 38 7 = nI 1 → (∀ A', F8 [5] A A' → A' 38 5 = nI (rn isl f z k p) → Ph none A' L) → qG E mm_X7_next (d + 2) 89 [(0, .ref 38)] [] A L Ph := by
  intro k
  induction k with
  | zero =>
    intro p A hp h4 h41 h5 h7 h
    have hp : p = z := by omega
    subst hp
    refine r_aload_n dX7_next_89 rfl ?_
    refine r_getI dX7_next_90 fl_X7_131 (ly_38 hE) rfl ?_
    refine r_rw (y := 1) h7 ?_
    refine r_iconst (v := 3) dX7_next_93 rfl ?_
    refine r_icmp_ge (tgt := 125) dX7_next_94 (by decide) (fun hqz => absurd hqz (by decide)) (fun _ => ?_)
    refine r_aload_n dX7_next_97 rfl ?_
    refine r_aload_n dX7_next_98 rfl ?_
    refine r_getI dX7_next_99 fl_X7_122 (ly_38 hE) rfl ?_
    refine r_rw (y := nI p) h5 ?_
    refine r_callV1 dX7_next_102 lk_X7_128 (ly_38 hE) rfl (Nat.le_of_ble_eq_true rfl) (sp_sortAt hE hz (Nat.le_refl _) h4 h41 ?_)
    refine r_rw (y := 0) (by rw [so_0.mpr (Nat.le_refl _)]; rfl) ?_
    refine r_aload_n dX7_next_105 rfl ?_
    refine r_getI dX7_next_106 fl_X7_131 (ly_38 hE) rfl ?_
    refine r_rw (y := 1) h7 ?_
    refine r_icmp_ne (tgt := 125) dX7_next_109 (by decide) (fun _ => ?_) (fun hqz => absurd hqz (by decide))
    refine r_return dX7_next_125 rfl ?_
    exact h A F8.rf h5
  | succ k ih =>
    intro p A hp h4 h41 h5 h7 h
    have hpz : p < z := by omega
    by_cases hb : isl (f p) = true
    · rw [rn_go ⟨hpz, hb⟩] at h
      refine r_aload_n dX7_next_89 rfl ?_
      refine r_getI dX7_next_90 fl_X7_131 (ly_38 hE) rfl ?_
      refine r_rw (y := 1) h7 ?_
      refine r_iconst (v := 3) dX7_next_93 rfl ?_
      refine r_icmp_ge (tgt := 125) dX7_next_94 (by decide) (fun hqz => absurd hqz (by decide)) (fun _ => ?_)
      refine r_aload_n dX7_next_97 rfl ?_
      refine r_aload_n dX7_next_98 rfl ?_
      refine r_getI dX7_next_99 fl_X7_122 (ly_38 hE) rfl ?_
      refine r_rw (y := nI p) h5 ?_
      refine r_callV1 dX7_next_102 lk_X7_128 (ly_38 hE) rfl (Nat.le_of_ble_eq_true rfl) (sp_sortAt hE hz (Nat.le_of_lt hpz) h4 h41 ?_)
      refine r_rw (y := 1) (by rw [(so_1 hpz).mpr hb]; rfl) ?_
      refine r_aload_n dX7_next_105 rfl ?_
      refine r_getI dX7_next_106 fl_X7_131 (ly_38 hE) rfl ?_
      refine r_rw (y := 1) h7 ?_
      refine r_icmp_ne (tgt := 125) dX7_next_109 (by decide) (fun hqz => absurd (by decide) hqz) (fun _ => ?_)
      refine r_aload_n dX7_next_112 rfl ?_
      refine r_dup dX7_next_113 rfl ?_
      refine r_getI dX7_next_114 fl_X7_122 (ly_38 hE) rfl ?_
      refine r_rw (y := nI p) h5 ?_
      refine r_iconst (v := 1) dX7_next_117 rfl ?_
      refine r_iadd dX7_next_118 ?_
      refine r_rw (y := nI (p + 1)) (nI_1 p) ?_
      refine r_putI dX7_next_119 fl_X7_122 fp_7_5 (ly_38 hE) rfl rfl rfl ?_
      refine r_goto (tgt := 89) dX7_next_122 (by decide) ?_
      refine qG.pick [0] rfl ?_
      exact ih (p + 1) _ (by omega) (by rw [s2_nj (fun _ => by decide)]; exact h4) (fun j hj => by rw [s2_ne (by decide)]; exact h41 j hj) s2_same (by rw [s2_nj (fun _ => by decide)]; exact h7) (fun A' f1 e => h A' ((F8.st (by decide)).tr f1) e)
    · rw [rn_no (fun q => hb q.2)] at h
      have hne : ¬ nI (so f z p) = 1 := by
        intro q
        have h4 := so_4 f z p
        exact hb ((so_1 hpz).mp ((nI_eq (b := 1) (by omega) (by decide)).mp q))
      refine r_aload_n dX7_next_89 rfl ?_
      refine r_getI dX7_next_90 fl_X7_131 (ly_38 hE) rfl ?_
      refine r_rw (y := 1) h7 ?_
      refine r_iconst (v := 3) dX7_next_93 rfl ?_
      refine r_icmp_ge (tgt := 125) dX7_next_94 (by decide) (fun hqz => absurd hqz (by decide)) (fun _ => ?_)
      refine r_aload_n dX7_next_97 rfl ?_
      refine r_aload_n dX7_next_98 rfl ?_
      refine r_getI dX7_next_99 fl_X7_122 (ly_38 hE) rfl ?_
      refine r_rw (y := nI p) h5 ?_
      refine r_callV1 dX7_next_102 lk_X7_128 (ly_38 hE) rfl (Nat.le_of_ble_eq_true rfl) (sp_sortAt hE hz (Nat.le_of_lt hpz) h4 h41 ?_)
      refine r_aload_n dX7_next_105 rfl ?_
      refine r_getI dX7_next_106 fl_X7_131 (ly_38 hE) rfl ?_
      refine r_rw (y := 1) h7 ?_
      refine r_icmp_ne (tgt := 125) dX7_next_109 (by decide) (fun _ => ?_) (fun hqz => absurd hqz hne)
      refine r_return dX7_next_125 rfl ?_
      exact h A F8.rf h5
set_option maxRecDepth 100000 in
set_option maxHeartbeats 1000000 in
theorem mn_loop2 (hE : hM E) (hz : z ≤ 160) : ∀ (k p : Nat) (A : mA), p + k = z → A 38 4 = nI z → (∀ j, j < z → A 41 j = f j) → A 38 5 = nI p → A 38 7 = nI 2 → (∀ A', F8 [5] A A' → A' 38 5 = nI (rn isd f z k p) → Ph none A' L) → qG E mm_X7_next (d + 2) 89 [(0, .ref 38)] [] A L Ph := by
  intro k
  induction k with
  | zero =>
    intro p A hp h4 h41 h5 h7 h
    have hp : p = z := by omega
    subst hp
    refine r_aload_n dX7_next_89 rfl ?_
    refine r_getI dX7_next_90 fl_X7_131 (ly_38 hE) rfl ?_
    refine r_rw (y := 2) h7 ?_
    refine r_iconst (v := 3) dX7_next_93 rfl ?_
    refine r_icmp_ge (tgt := 125) dX7_next_94 (by decide) (fun hqz => absurd hqz (by decide)) (fun _ => ?_)
    refine r_aload_n dX7_next_97 rfl ?_
    refine r_aload_n dX7_next_98 rfl ?_
    refine r_getI dX7_next_99 fl_X7_122 (ly_38 hE) rfl ?_
    refine r_rw (y := nI p) h5 ?_
    refine r_callV1 dX7_next_102 lk_X7_128 (ly_38 hE) rfl (Nat.le_of_ble_eq_true rfl) (sp_sortAt hE hz (Nat.le_refl _) h4 h41 ?_)
    refine r_rw (y := 0) (by rw [so_0.mpr (Nat.le_refl _)]; rfl) ?_
    refine r_aload_n dX7_next_105 rfl ?_
    refine r_getI dX7_next_106 fl_X7_131 (ly_38 hE) rfl ?_
    refine r_rw (y := 2) h7 ?_
    refine r_icmp_ne (tgt := 125) dX7_next_109 (by decide) (fun _ => ?_) (fun hqz => absurd hqz (by decide))
    refine r_return dX7_next_125 rfl ?_
    exact h A F8.rf h5
  | succ k ih =>
    intro p A hp h4 h41 h5 h7 h
    have hpz : p < z := by omega
    by_cases hb : isd (f p) = true
    · rw [rn_go ⟨hpz, hb⟩] at h
      refine r_aload_n dX7_next_89 rfl ?_
      refine r_getI dX7_next_90 fl_X7_131 (ly_38 hE) rfl ?_
      refine r_rw (y := 2) h7 ?_
      refine r_iconst (v := 3) dX7_next_93 rfl ?_
      refine r_icmp_ge (tgt := 125) dX7_next_94 (by decide) (fun hqz => absurd hqz (by decide)) (fun _ => ?_)
      refine r_aload_n dX7_next_97 rfl ?_
      refine r_aload_n dX7_next_98 rfl ?_
      refine r_getI dX7_next_99 fl_X7_122 (ly_38 hE) rfl ?_
      refine r_rw (y := nI p) h5 ?_
      refine r_callV1 dX7_next_102 lk_X7_128 (ly_38 hE) rfl (Nat.le_of_ble_eq_true rfl) (sp_sortAt hE hz (Nat.le_of_lt hpz) h4 h41 ?_)
      refine r_rw (y := 2) (by rw [(so_2 hpz).mpr hb]; rfl) ?_
      refine r_aload_n dX7_next_105 rfl ?_
      refine r_getI dX7_next_106 fl_X7_131 (ly_38 hE) rfl ?_
      refine r_rw (y := 2) h7 ?_
      refine r_icmp_ne (tgt := 125) dX7_next_109 (by decide) (fun hqz => absurd (by decide) hqz) (fun _ => ?_)
      refine r_aload_n dX7_next_112 rfl ?_
      refine r_dup dX7_next_113 rfl ?_
      refine r_getI dX7_next_114 fl_X7_122 (ly_38 hE) rfl ?_
      refine r_rw (y := nI p) h5 ?_
      refine r_iconst (v := 1) dX7_next_117 rfl ?_
      refine r_iadd dX7_next_118 ?_
      refine r_rw (y := nI (p + 1)) (nI_1 p) ?_
      refine r_putI dX7_next_119 fl_X7_122 fp_7_5 (ly_38 hE) rfl rfl rfl ?_
      refine r_goto (tgt := 89) dX7_next_122 (by decide) ?_
      refine qG.pick [0] rfl ?_
      exact ih (p + 1) _ (by omega) (by rw [s2_nj (fun _ => by decide)]; exact h4) (fun j hj => by rw [s2_ne (by decide)]; exact h41 j hj) s2_same (by rw [s2_nj (fun _ => by decide)]; exact h7) (fun A' f1 e => h A' ((F8.st (by decide)).tr f1) e)
    · rw [rn_no (fun q => hb q.2)] at h
      have hne : ¬ nI (so f z p) = 2 := by
        intro q
        have h4 := so_4 f z p
        exact hb ((so_2 hpz).mp ((nI_eq (b := 2) (by omega) (by decide)).mp q))
      refine r_aload_n dX7_next_89 rfl ?_
      refine r_getI dX7_next_90 fl_X7_131 (ly_38 hE) rfl ?_
      refine r_rw (y := 2) h7 ?_
      refine r_iconst (v := 3) dX7_next_93 rfl ?_
      refine r_icmp_ge (tgt := 125) dX7_next_94 (by decide) (fun hqz => absurd hqz (by decide)) (fun _ => ?_)
      refine r_aload_n dX7_next_97 rfl ?_
      refine r_aload_n dX7_next_98 rfl ?_
      refine r_getI dX7_next_99 fl_X7_122 (ly_38 hE) rfl ?_
      refine r_rw (y := nI p) h5 ?_
      refine r_callV1 dX7_next_102 lk_X7_128 (ly_38 hE) rfl (Nat.le_of_ble_eq_true rfl) (sp_sortAt hE hz (Nat.le_of_lt hpz) h4 h41 ?_)
      refine r_aload_n dX7_next_105 rfl ?_
      refine r_getI dX7_next_106 fl_X7_131 (ly_38 hE) rfl ?_
      refine r_rw (y := 2) h7 ?_
      refine r_icmp_ne (tgt := 125) dX7_next_109 (by decide) (fun _ => ?_) (fun hqz => absurd hqz hne)
      refine r_return dX7_next_125 rfl ?_
      exact h A F8.rf h5
set_option maxRecDepth 100000 in
set_option maxHeartbeats 1000000 in
theorem sp_next (hE : hM E) (hz : z ≤ 160) (h4 : A 38 4 = nI z) (h41 : ∀ j, j < z → A 41 j = f j) (h5 : A 38 5 = nI (tE f z i)) (h : ∀ A', F8 [5, 6, 7] A A' → MK A' f z i → Ph none A' L) : qC E mm_X7_next (d + 2) [.ref 38] A L Ph := by
  have hp := tE_le (f := f) hz i
  refine qC.enter (by decide) (Nat.le_of_ble_eq_true rfl) ?_
  refine mb_loop hE hz (z - tE f z i) (tE f z i) A (by omega) h4 h41 h5 (fun A1 f1 e1 => ?_)
  rw [rn_160 hz (z - tE f z i) (by omega) (by omega)] at e1
  obtain ⟨s, hs⟩ : ∃ s, tS f z i = s := ⟨_, rfl⟩
  rw [show rn isb f z 160 (tE f z i) = s from hs] at e1
  have hsz : s ≤ z := by rw [← hs]; exact hp.2.2
  obtain ⟨A2, eA2⟩ : ∃ A2, s2 (s2 A1 38 6 (nI s)) 38 7 (nI (so f z s)) = A2 := ⟨_, rfl⟩
  have f2 : F8 [5, 6, 7] A A2 := by rw [← eA2]; exact ((f1.mo (by decide)).tr (F8.st (by decide))).tr (F8.st (by decide))
  have k4 : A2 38 4 = nI z := (f2.2 4 (by decide)).trans h4
  have k41 : ∀ j, j < z → A2 41 j = f j := fun j hj => by rw [f2.1 41 (by decide)]; exact h41 j hj
  have k5 : A2 38 5 = nI s := by rw [← eA2, s2_nj (fun _ => by decide), s2_nj (fun _ => by decide)]; exact e1
  have k6 : A2 38 6 = nI s := by rw [← eA2, s2_nj (fun _ => by decide), s2_same]
  have k7 : A2 38 7 = nI (so f z s) := by rw [← eA2, s2_same]
  have fin : ∀ A', F8 [5] A2 A' → A' 38 5 = nI (eo f z s) → Ph none A' L := by
    intro A' fa a5
    refine h A' (f2.tr (fa.mo (by decide))) ⟨(fa.2 4 (by decide)).trans k4, fun j hj => by rw [fa.1 41 (by decide)]; exact k41 j hj, ?_, ?_, ?_⟩
    · rw [tE_s, hs]; exact a5
    · rw [hs]; exact (fa.2 6 (by decide)).trans k6
    · rw [hs]; exact (fa.2 7 (by decide)).trans k7
  rcases so_4 f z s with c0 | c0 | c0 | c0
  · refine r_aload_n dX7_next_52 rfl ?_
    refine r_aload_n dX7_next_53 rfl ?_
    refine r_getI dX7_next_54 fl_X7_122 (ly_38 hE) rfl ?_
    refine r_rw (y := nI s) e1 ?_
    refine r_putI dX7_next_57 fl_X7_125 fp_7_6 (ly_38 hE) rfl rfl rfl ?_
    refine r_aload_n dX7_next_60 rfl ?_
    refine r_aload_n dX7_next_61 rfl ?_
    refine r_aload_n dX7_next_62 rfl ?_
    refine r_getI dX7_next_63 fl_X7_122 (ly_38 hE) rfl ?_
    refine r_rw (y := nI s) (by rw [s2_nj (fun _ => by decide)]; exact e1) ?_
    refine r_callV1 dX7_next_66 lk_X7_128 (ly_38 hE) rfl (Nat.le_of_ble_eq_true rfl) (sp_sortAt (f := f) hE hz hsz (by rw [s2_nj (fun _ => by decide)]; exact (f1.2 4 (by decide)).trans h4) (fun j hj => by rw [s2_ne (by decide), f1.1 41 (by decide)]; exact h41 j hj) ?_)
    refine r_putI dX7_next_69 fl_X7_131 fp_7_7 (ly_38 hE) rfl rfl rfl ?_
    rw [eA2]
    refine r_aload_n dX7_next_72 rfl ?_
    refine r_getI dX7_next_73 fl_X7_131 (ly_38 hE) rfl ?_
    refine r_rw (y := 0) (by rw [k7, c0]; rfl) ?_
    refine r_if_le (tgt := 125) dX7_next_76 (by decide) (fun _ => ?_) (fun hqz => absurd (by decide) hqz)
    refine r_return dX7_next_125 rfl ?_
    refine fin A2 F8.rf ?_
    unfold eo
    rw [if_pos c0]
    exact k5
  · have hl : s < z := so_lt (f := f) (by omega)
    have he : eo f z s = rn isl f z (z - (s + 1)) (s + 1) := by
      unfold eo
      rw [if_neg (by omega), if_pos c0, ← rn_160 hz (z - s) (by omega) (by omega), show z - s = z - (s + 1) + 1 by omega, rn_go ⟨hl, (so_1 hl).mp c0⟩]
    refine r_aload_n dX7_next_52 rfl ?_
    refine r_aload_n dX7_next_53 rfl ?_
    refine r_getI dX7_next_54 fl_X7_122 (ly_38 hE) rfl ?_
    refine r_rw (y := nI s) e1 ?_
    refine r_putI dX7_next_57 fl_X7_125 fp_7_6 (ly_38 hE) rfl rfl rfl ?_
    refine r_aload_n dX7_next_60 rfl ?_
    refine r_aload_n dX7_next_61 rfl ?_
    refine r_aload_n dX7_next_62 rfl ?_
    refine r_getI dX7_next_63 fl_X7_122 (ly_38 hE) rfl ?_
    refine r_rw (y := nI s) (by rw [s2_nj (fun _ => by decide)]; exact e1) ?_
    refine r_callV1 dX7_next_66 lk_X7_128 (ly_38 hE) rfl (Nat.le_of_ble_eq_true rfl) (sp_sortAt (f := f) hE hz hsz (by rw [s2_nj (fun _ => by decide)]; exact (f1.2 4 (by decide)).trans h4) (fun j hj => by rw [s2_ne (by decide), f1.1 41 (by decide)]; exact h41 j hj) ?_)
    refine r_putI dX7_next_69 fl_X7_131 fp_7_7 (ly_38 hE) rfl rfl rfl ?_
    rw [eA2]
    refine r_aload_n dX7_next_72 rfl ?_
    refine r_getI dX7_next_73 fl_X7_131 (ly_38 hE) rfl ?_
    refine r_rw (y := 1) (by rw [k7, c0]; rfl) ?_
    refine r_if_le (tgt := 125) dX7_next_76 (by decide) (fun hqz => absurd hqz (by decide)) (fun _ => ?_)
    refine r_aload_n dX7_next_79 rfl ?_
    refine r_dup dX7_next_80 rfl ?_
    refine r_getI dX7_next_81 fl_X7_122 (ly_38 hE) rfl ?_
    refine r_rw (y := nI s) k5 ?_
    refine r_iconst (v := 1) dX7_next_84 rfl ?_
    refine r_iadd dX7_next_85 ?_
    refine r_rw (y := nI (s + 1)) (nI_1 s) ?_
    refine r_putI dX7_next_86 fl_X7_122 fp_7_5 (ly_38 hE) rfl rfl rfl ?_
    refine qG.pick [0] rfl ?_
    exact mn_loop1 (f := f) hE hz (z - (s + 1)) (s + 1) _ (by omega) (by rw [s2_nj (fun _ => by decide)]; exact k4) (fun j hj => by rw [s2_ne (by decide)]; exact k41 j hj) s2_same (by rw [s2_nj (fun _ => by decide), k7, c0]) (fun A' f3 e3 => fin A' ((F8.st (by decide)).tr f3) (by rw [he]; exact e3))
  · have hl : s < z := so_lt (f := f) (by omega)
    have he : eo f z s = rn isd f z (z - (s + 1)) (s + 1) := by
      unfold eo
      rw [if_neg (by omega), if_neg (by omega), if_pos c0, ← rn_160 hz (z - s) (by omega) (by omega), show z - s = z - (s + 1) + 1 by omega, rn_go ⟨hl, (so_2 hl).mp c0⟩]
    refine r_aload_n dX7_next_52 rfl ?_
    refine r_aload_n dX7_next_53 rfl ?_
    refine r_getI dX7_next_54 fl_X7_122 (ly_38 hE) rfl ?_
    refine r_rw (y := nI s) e1 ?_
    refine r_putI dX7_next_57 fl_X7_125 fp_7_6 (ly_38 hE) rfl rfl rfl ?_
    refine r_aload_n dX7_next_60 rfl ?_
    refine r_aload_n dX7_next_61 rfl ?_
    refine r_aload_n dX7_next_62 rfl ?_
    refine r_getI dX7_next_63 fl_X7_122 (ly_38 hE) rfl ?_
    refine r_rw (y := nI s) (by rw [s2_nj (fun _ => by decide)]; exact e1) ?_
    refine r_callV1 dX7_next_66 lk_X7_128 (ly_38 hE) rfl (Nat.le_of_ble_eq_true rfl) (sp_sortAt (f := f) hE hz hsz (by rw [s2_nj (fun _ => by decide)]; exact (f1.2 4 (by decide)).trans h4) (fun j hj => by rw [s2_ne (by decide), f1.1 41 (by decide)]; exact h41 j hj) ?_)
    refine r_putI dX7_next_69 fl_X7_131 fp_7_7 (ly_38 hE) rfl rfl rfl ?_
    rw [eA2]
    refine r_aload_n dX7_next_72 rfl ?_
    refine r_getI dX7_next_73 fl_X7_131 (ly_38 hE) rfl ?_
    refine r_rw (y := 2) (by rw [k7, c0]; rfl) ?_
    refine r_if_le (tgt := 125) dX7_next_76 (by decide) (fun hqz => absurd hqz (by decide)) (fun _ => ?_)
    refine r_aload_n dX7_next_79 rfl ?_
    refine r_dup dX7_next_80 rfl ?_
    refine r_getI dX7_next_81 fl_X7_122 (ly_38 hE) rfl ?_
    refine r_rw (y := nI s) k5 ?_
    refine r_iconst (v := 1) dX7_next_84 rfl ?_
    refine r_iadd dX7_next_85 ?_
    refine r_rw (y := nI (s + 1)) (nI_1 s) ?_
    refine r_putI dX7_next_86 fl_X7_122 fp_7_5 (ly_38 hE) rfl rfl rfl ?_
    refine qG.pick [0] rfl ?_
    exact mn_loop2 (f := f) hE hz (z - (s + 1)) (s + 1) _ (by omega) (by rw [s2_nj (fun _ => by decide)]; exact k4) (fun j hj => by rw [s2_ne (by decide)]; exact k41 j hj) s2_same (by rw [s2_nj (fun _ => by decide), k7, c0]) (fun A' f3 e3 => fin A' ((F8.st (by decide)).tr f3) (by rw [he]; exact e3))
  · have he : eo f z s = s + 1 := by
      unfold eo
      rw [if_neg (by omega), if_neg (by omega), if_neg (by omega)]
    refine r_aload_n dX7_next_52 rfl ?_
    refine r_aload_n dX7_next_53 rfl ?_
    refine r_getI dX7_next_54 fl_X7_122 (ly_38 hE) rfl ?_
    refine r_rw (y := nI s) e1 ?_
    refine r_putI dX7_next_57 fl_X7_125 fp_7_6 (ly_38 hE) rfl rfl rfl ?_
    refine r_aload_n dX7_next_60 rfl ?_
    refine r_aload_n dX7_next_61 rfl ?_
    refine r_aload_n dX7_next_62 rfl ?_
    refine r_getI dX7_next_63 fl_X7_122 (ly_38 hE) rfl ?_
    refine r_rw (y := nI s) (by rw [s2_nj (fun _ => by decide)]; exact e1) ?_
    refine r_callV1 dX7_next_66 lk_X7_128 (ly_38 hE) rfl (Nat.le_of_ble_eq_true rfl) (sp_sortAt (f := f) hE hz hsz (by rw [s2_nj (fun _ => by decide)]; exact (f1.2 4 (by decide)).trans h4) (fun j hj => by rw [s2_ne (by decide), f1.1 41 (by decide)]; exact h41 j hj) ?_)
    refine r_putI dX7_next_69 fl_X7_131 fp_7_7 (ly_38 hE) rfl rfl rfl ?_
    rw [eA2]
    refine r_aload_n dX7_next_72 rfl ?_
    refine r_getI dX7_next_73 fl_X7_131 (ly_38 hE) rfl ?_
    refine r_rw (y := 3) (by rw [k7, c0]; rfl) ?_
    refine r_if_le (tgt := 125) dX7_next_76 (by decide) (fun hqz => absurd hqz (by decide)) (fun _ => ?_)
    refine r_aload_n dX7_next_79 rfl ?_
    refine r_dup dX7_next_80 rfl ?_
    refine r_getI dX7_next_81 fl_X7_122 (ly_38 hE) rfl ?_
    refine r_rw (y := nI s) k5 ?_
    refine r_iconst (v := 1) dX7_next_84 rfl ?_
    refine r_iadd dX7_next_85 ?_
    refine r_rw (y := nI (s + 1)) (nI_1 s) ?_
    refine r_putI dX7_next_86 fl_X7_122 fp_7_5 (ly_38 hE) rfl rfl rfl ?_
    refine r_aload_n dX7_next_89 rfl ?_
    refine r_getI dX7_next_90 fl_X7_131 (ly_38 hE) rfl ?_
    refine r_rw (y := 3) (by rw [s2_nj (fun _ => by decide), k7, c0]; rfl) ?_
    refine r_iconst (v := 3) dX7_next_93 rfl ?_
    refine r_icmp_ge (tgt := 125) dX7_next_94 (by decide) (fun _ => ?_) (fun hqz => absurd (by decide) hqz)
    refine r_return dX7_next_125 rfl ?_
    exact fin _ (F8.st (by decide)) (by rw [s2_same, he])
set_option maxRecDepth 100000 in
set_option maxHeartbeats 1000000 in
theorem sp_isSign (hE : hM E) (hz : z ≤ 160) (hf : ∀ j, j < z → ∃ b, b < 256 ∧ f j = nI b) {b : Nat} (hb : b < 256) (hi : inS b = true) (hm : MK A f z i) (h1 : tk f z i = nI b → Ph (some (.int 1)) A L) (h0 : ¬ tk f z i = nI b → Ph (some (.int 0)) A L) : qC E mm_X7_isSign d [.ref 38, .int (nI b)] A L Ph := by
  obtain ⟨m4, m41, m5, m6, m7⟩ := hm
  have hi := sg_tk (i := i) hf hb hi
  have hs := (tE_le (f := f) hz i).2.2
  generalize tS f z i = s at *
  by_cases h3 : so f z s = 3
  · have hl : s < z := so_lt (f := f) (by omega)
    refine qC.enter (by decide) (Nat.le_of_ble_eq_true rfl) ?_
    refine r_aload_n dX7_isSign_0 rfl ?_
    refine r_getI dX7_isSign_1 fl_X7_131 (ly_38 hE) rfl ?_
    refine r_rw (y := 3) (by rw [m7, h3]; rfl) ?_
    refine r_iconst (v := 3) dX7_isSign_4 rfl ?_
    refine r_icmp_ne (tgt := 25) dX7_isSign_5 (by decide) (fun hqz => absurd (by decide) hqz) (fun _ => ?_)
    refine r_aload_n dX7_isSign_8 rfl ?_
    refine r_getR dX7_isSign_9 fl_X7_16 (ly_38 hE) rfl ?_
    refine r_aload_n dX7_isSign_12 rfl ?_
    refine r_getI dX7_isSign_13 fl_X7_125 (ly_38 hE) rfl ?_
    refine r_rw (y := nI s) m6 ?_
    refine r_ialdN dX7_isSign_16 (ly_41 hE) (by omega) (by decide) ?_
    refine r_rw (y := f s) (m41 s hl) ?_
    refine r_iload_n dX7_isSign_17 rfl ?_
    refine r_icmp_ne (tgt := 25) dX7_isSign_18 (by decide) (fun b18 => ?_) (fun b18 => ?_)
    · refine r_iconst (v := 0) dX7_isSign_25 rfl ?_
      refine r_ireturn dX7_isSign_26 rfl (by decide) ?_
      first | exact h0 (fun q => b18 (hi.mpr q).2) | exact h1 (hi.mp ⟨h3, b18⟩)
    · refine r_iconst (v := 1) dX7_isSign_21 rfl ?_
      refine r_goto (tgt := 26) dX7_isSign_22 (by decide) ?_
      refine r_ireturn dX7_isSign_26 rfl (by decide) ?_
      first | exact h0 (fun q => b18 (hi.mpr q).2) | exact h1 (hi.mp ⟨h3, b18⟩)
  · have h4 := so_4 f z s
    refine qC.enter (by decide) (Nat.le_of_ble_eq_true rfl) ?_
    refine r_aload_n dX7_isSign_0 rfl ?_
    refine r_getI dX7_isSign_1 fl_X7_131 (ly_38 hE) rfl ?_
    refine r_rw (y := nI (so f z s)) m7 ?_
    refine r_iconst (v := 3) dX7_isSign_4 rfl ?_
    refine r_icmp_ne (tgt := 25) dX7_isSign_5 (by decide) (fun _ => ?_) (fun hqz => absurd hqz (fun y => h3 ((nI_eq (b := 3) (by omega) (by decide)).mp y)))
    refine r_iconst (v := 0) dX7_isSign_25 rfl ?_
    refine r_ireturn dX7_isSign_26 rfl (by decide) ?_
    exact h0 (fun q => h3 (hi.mpr q).1)
set_option maxRecDepth 100000 in
set_option maxHeartbeats 1000000 in
theorem wi_loop (hE : hM E) (hz : z ≤ 160) {k s e : Nat} {fd : Int32} (hk : k < 12) (h6 : e - s ≤ 6) (hse : s ≤ e) (hez : e ≤ z) (m41 : ∀ j, j < z → A 41 j = f j) (m5 : A 38 5 = nI e) (m6 : A 38 6 = nI s) (hn : ∀ j, j < 72 → A 44 j = mNm j) (h1 : mt f s e k → qG E mm_X7_word d 109 [(3, .int 1), (2, .int (nI k)), (1, .int fd), (0, .ref 38)] [] A L Ph) (h0 : ¬ mt f s e k → qG E mm_X7_word d 109 [(3, .int 0), (2, .int (nI k)), (1, .int fd), (0, .ref 38)] [] A L Ph) : ∀ (m q : Nat), q + m = 6 → (∀ j, j < q → mNm (6 * k + j) = if s + j < e then f (s + j) else 0) → qG E mm_X7_word d 41 [(4, .int (nI q)), (3, .int 1), (2, .int (nI k)), (1, .int fd), (0, .ref 38)] [] A L Ph := by
  intro m
  induction m with
  | zero =>
    intro q hq hb
    have hq : q = 6 := by omega
    subst hq
    refine r_iload_n dX7_word_41 rfl ?_
    refine r_if_eq (tgt := 109) dX7_word_42 (by decide) (fun hqz => absurd hqz (by decide)) (fun _ => ?_)
    refine r_iload dX7_word_45 rfl ?_
    refine r_bipush (v := 6) dX7_word_47 rfl ?_
    refine r_icmp_ge (tgt := 109) dX7_word_49 (by decide) (fun _ => ?_) (fun hqz => absurd (nI_le (Nat.le_refl 6) (by decide)) hqz)
    refine qG.pick [1, 2, 3, 4] rfl ?_
    exact h1 ⟨h6, hb⟩
  | succ m ih =>
    intro q hq hb
    have hq6 : q < 6 := by omega
    have next : mNm (6 * k + q) = (if s + q < e then f (s + q) else 0) → ∀ j, j < q + 1 → mNm (6 * k + j) = if s + j < e then f (s + j) else 0 := by
      intro e1 j hj
      rcases Nat.lt_or_ge j q with y | y
      · exact hb j y
      · rw [show j = q by omega]; exact e1
    have no : ¬ mNm (6 * k + q) = (if s + q < e then f (s + q) else 0) → ¬ mt f s e k := fun y h => y (h.2 q hq6)
    by_cases hlt : s + q < e
    · refine r_iload_n dX7_word_41 rfl ?_
      refine r_if_eq (tgt := 109) dX7_word_42 (by decide) (fun hqz => absurd hqz (by decide)) (fun _ => ?_)
      refine r_iload dX7_word_45 rfl ?_
      refine r_bipush (v := 6) dX7_word_47 rfl ?_
      refine r_icmp_ge (tgt := 109) dX7_word_49 (by decide) (fun hqz => absurd hqz (nI_ge hq6 (by decide))) (fun _ => ?_)
      refine r_aload_n dX7_word_52 rfl ?_
      refine r_getR dX7_word_53 fl_X7_33 (ly_38 hE) rfl ?_
      refine r_bipush (v := 6) dX7_word_56 rfl ?_
      refine r_iload_n dX7_word_58 rfl ?_
      refine r_imul dX7_word_59 ?_
      refine r_iload dX7_word_60 rfl ?_
      refine r_iadd dX7_word_62 ?_
      refine r_rw (y := nI (6 * k + q)) (show nI 6 * nI k + nI q = _ by rw [pk_mul, nI_add]) ?_
      refine r_caldN dX7_word_63 (ly_44 hE) (by omega) (by decide) ?_
      refine r_rw (y := mNm (6 * k + q)) (hn _ (by omega)) ?_
      refine r_aload_n dX7_word_64 rfl ?_
      refine r_getI dX7_word_65 fl_X7_125 (ly_38 hE) rfl ?_
      refine r_rw (y := nI s) m6 ?_
      refine r_iload dX7_word_68 rfl ?_
      refine r_iadd dX7_word_70 ?_
      refine r_rw (y := nI (s + q)) (nI_add s q) ?_
      refine r_aload_n dX7_word_71 rfl ?_
      refine r_getI dX7_word_72 fl_X7_122 (ly_38 hE) rfl ?_
      refine r_rw (y := nI e) m5 ?_
      refine r_icmp_ge (tgt := 93) dX7_word_75 (by decide) (fun hqz => absurd hqz (nI_ge hlt (by omega))) (fun _ => ?_)
      refine r_aload_n dX7_word_78 rfl ?_
      refine r_getR dX7_word_79 fl_X7_16 (ly_38 hE) rfl ?_
      refine r_aload_n dX7_word_82 rfl ?_
      refine r_getI dX7_word_83 fl_X7_125 (ly_38 hE) rfl ?_
      refine r_rw (y := nI s) m6 ?_
      refine r_iload dX7_word_86 rfl ?_
      refine r_iadd dX7_word_88 ?_
      refine r_rw (y := nI (s + q)) (nI_add s q) ?_
      refine r_ialdN dX7_word_89 (ly_41 hE) (by omega) (by decide) ?_
      refine r_rw (y := f (s + q)) (m41 _ (by omega)) ?_
      refine r_goto (tgt := 94) dX7_word_90 (by decide) ?_
      refine r_icmp_ne (tgt := 101) dX7_word_94 (by decide) (fun b94 => ?_) (fun b94 => ?_)
      · have hx := no (by rw [if_pos hlt]; exact b94)
        refine r_iconst (v := 0) dX7_word_101 rfl ?_
        refine r_istore_n (loc' := [(3, .int 0), (4, .int (nI q)), (2, .int (nI k)), (1, .int fd), (0, .ref 38)]) dX7_word_102 (by decide) rfl ?_
        refine r_iinc (v := (nI (q + 1))) (loc' := [(4, .int (nI (q + 1))), (3, .int 0), (2, .int (nI k)), (1, .int fd), (0, .ref 38)]) dX7_word_103 rfl ((nI_succ _).symm) (by decide) rfl ?_
        refine r_goto (tgt := 41) dX7_word_106 (by decide) ?_
        refine r_iload_n dX7_word_41 rfl ?_
        refine r_if_eq (tgt := 109) dX7_word_42 (by decide) (fun _ => ?_) (fun hqz => absurd (by decide) hqz)
        refine qG.pick [1, 2, 3, 4] rfl ?_
        exact h0 hx
      · refine r_iconst (v := 1) dX7_word_97 rfl ?_
        refine r_goto (tgt := 102) dX7_word_98 (by decide) ?_
        refine r_istore_n (loc' := [(3, .int 1), (4, .int (nI q)), (2, .int (nI k)), (1, .int fd), (0, .ref 38)]) dX7_word_102 (by decide) rfl ?_
        refine r_iinc (v := (nI (q + 1))) (loc' := [(4, .int (nI (q + 1))), (3, .int 1), (2, .int (nI k)), (1, .int fd), (0, .ref 38)]) dX7_word_103 rfl ((nI_succ _).symm) (by decide) rfl ?_
        refine r_goto (tgt := 41) dX7_word_106 (by decide) ?_
        refine qG.pick [0, 1, 2, 3, 4] rfl ?_
        exact ih (q + 1) (by omega) (next (by rw [if_pos hlt]; exact b94))
    · refine r_iload_n dX7_word_41 rfl ?_
      refine r_if_eq (tgt := 109) dX7_word_42 (by decide) (fun hqz => absurd hqz (by decide)) (fun _ => ?_)
      refine r_iload dX7_word_45 rfl ?_
      refine r_bipush (v := 6) dX7_word_47 rfl ?_
      refine r_icmp_ge (tgt := 109) dX7_word_49 (by decide) (fun hqz => absurd hqz (nI_ge hq6 (by decide))) (fun _ => ?_)
      refine r_aload_n dX7_word_52 rfl ?_
      refine r_getR dX7_word_53 fl_X7_33 (ly_38 hE) rfl ?_
      refine r_bipush (v := 6) dX7_word_56 rfl ?_
      refine r_iload_n dX7_word_58 rfl ?_
      refine r_imul dX7_word_59 ?_
      refine r_iload dX7_word_60 rfl ?_
      refine r_iadd dX7_word_62 ?_
      refine r_rw (y := nI (6 * k + q)) (show nI 6 * nI k + nI q = _ by rw [pk_mul, nI_add]) ?_
      refine r_caldN dX7_word_63 (ly_44 hE) (by omega) (by decide) ?_
      refine r_rw (y := mNm (6 * k + q)) (hn _ (by omega)) ?_
      refine r_aload_n dX7_word_64 rfl ?_
      refine r_getI dX7_word_65 fl_X7_125 (ly_38 hE) rfl ?_
      refine r_rw (y := nI s) m6 ?_
      refine r_iload dX7_word_68 rfl ?_
      refine r_iadd dX7_word_70 ?_
      refine r_rw (y := nI (s + q)) (nI_add s q) ?_
      refine r_aload_n dX7_word_71 rfl ?_
      refine r_getI dX7_word_72 fl_X7_122 (ly_38 hE) rfl ?_
      refine r_rw (y := nI e) m5 ?_
      refine r_icmp_ge (tgt := 93) dX7_word_75 (by decide) (fun _ => ?_) (fun hqz => absurd (nI_le (by omega) (by omega)) hqz)
      refine r_iconst (v := 0) dX7_word_93 rfl ?_
      refine r_icmp_ne (tgt := 101) dX7_word_94 (by decide) (fun b94 => ?_) (fun b94 => ?_)
      · have hx := no (by rw [if_neg hlt]; exact b94)
        refine r_iconst (v := 0) dX7_word_101 rfl ?_
        refine r_istore_n (loc' := [(3, .int 0), (4, .int (nI q)), (2, .int (nI k)), (1, .int fd), (0, .ref 38)]) dX7_word_102 (by decide) rfl ?_
        refine r_iinc (v := (nI (q + 1))) (loc' := [(4, .int (nI (q + 1))), (3, .int 0), (2, .int (nI k)), (1, .int fd), (0, .ref 38)]) dX7_word_103 rfl ((nI_succ _).symm) (by decide) rfl ?_
        refine r_goto (tgt := 41) dX7_word_106 (by decide) ?_
        refine r_iload_n dX7_word_41 rfl ?_
        refine r_if_eq (tgt := 109) dX7_word_42 (by decide) (fun _ => ?_) (fun hqz => absurd (by decide) hqz)
        refine qG.pick [1, 2, 3, 4] rfl ?_
        exact h0 hx
      · refine r_iconst (v := 1) dX7_word_97 rfl ?_
        refine r_goto (tgt := 102) dX7_word_98 (by decide) ?_
        refine r_istore_n (loc' := [(3, .int 1), (4, .int (nI q)), (2, .int (nI k)), (1, .int fd), (0, .ref 38)]) dX7_word_102 (by decide) rfl ?_
        refine r_iinc (v := (nI (q + 1))) (loc' := [(4, .int (nI (q + 1))), (3, .int 1), (2, .int (nI k)), (1, .int fd), (0, .ref 38)]) dX7_word_103 rfl ((nI_succ _).symm) (by decide) rfl ?_
        refine r_goto (tgt := 41) dX7_word_106 (by decide) ?_
        refine qG.pick [0, 1, 2, 3, 4] rfl ?_
        exact ih (q + 1) (by omega) (next (by rw [if_neg hlt]; exact b94))
set_option maxRecDepth 100000 in
set_option maxHeartbeats 1000000 in
theorem wo_loop (hE : hM E) (hz : z ≤ 160) (hm : MK A f z i) (hn : ∀ j, j < 72 → A 44 j = mNm j) (hw : so f z (tS f z i) = 1) (h : Ph (some (.int (wdF f (tS f z i) (tE f z (i + 1)) 12))) A L) : ∀ (m k : Nat), k + m = 12 → qG E mm_X7_word d 4 [(2, .int (nI k)), (1, .int (wdF f (tS f z i) (tE f z (i + 1)) k)), (0, .ref 38)] [] A L Ph := by
  obtain ⟨m4, m41, m5, m6, m7⟩ := hm
  have hs := (tE_le (f := f) hz i).2.2
  have hse := tS_le (f := f) hz i
  have hez := (tE_le (f := f) hz (i + 1)).1
  generalize tS f z i = s at *
  generalize tE f z (i + 1) = e at *
  intro m
  induction m with
  | zero =>
    intro k hk
    have hk : k = 12 := by omega
    subst hk
    refine r_iload_n dX7_word_4 rfl ?_
    refine r_bipush (v := 12) dX7_word_5 rfl ?_
    refine r_icmp_ge (tgt := 125) dX7_word_7 (by decide) (fun _ => ?_) (fun hqz => absurd (nI_le (Nat.le_refl 12) (by decide)) hqz)
    refine r_iload_n dX7_word_125 rfl ?_
    refine r_ireturn dX7_word_126 rfl rfl ?_
    exact h
  | succ m ih =>
    intro k hk
    have hk12 : k < 12 := by omega
    have hs1 := ih (k + 1) (by omega)
    by_cases h6 : e - s ≤ 6
    · generalize efd : wdF f s e k = fd at *
      refine r_iload_n dX7_word_4 rfl ?_
      refine r_bipush (v := 12) dX7_word_5 rfl ?_
      refine r_icmp_ge (tgt := 125) dX7_word_7 (by decide) (fun hqz => absurd hqz (nI_ge hk12 (by decide))) (fun _ => ?_)
      refine r_aload_n dX7_word_10 rfl ?_
      refine r_getI dX7_word_11 fl_X7_131 (ly_38 hE) rfl ?_
      refine r_rw (y := 1) (by rw [m7, hw]; rfl) ?_
      refine r_iconst (v := 1) dX7_word_14 rfl ?_
      refine r_icmp_ne (tgt := 36) dX7_word_15 (by decide) (fun hqz => absurd (by decide) hqz) (fun _ => ?_)
      refine r_aload_n dX7_word_18 rfl ?_
      refine r_getI dX7_word_19 fl_X7_122 (ly_38 hE) rfl ?_
      refine r_rw (y := nI e) m5 ?_
      refine r_aload_n dX7_word_22 rfl ?_
      refine r_getI dX7_word_23 fl_X7_125 (ly_38 hE) rfl ?_
      refine r_rw (y := nI s) m6 ?_
      refine r_isub dX7_word_26 ?_
      refine r_rw (y := nI (e - s)) (pk_sub hse) ?_
      refine r_bipush (v := 6) dX7_word_27 rfl ?_
      refine r_icmp_gt (tgt := 36) dX7_word_29 (by decide) (fun hqz => absurd hqz (i_nle (nI_le (b := 6) h6 (by decide)))) (fun _ => ?_)
      refine r_iconst (v := 1) dX7_word_32 rfl ?_
      refine r_goto (tgt := 37) dX7_word_33 (by decide) ?_
      refine r_istore_n (loc' := [(3, .int 1), (2, .int (nI k)), (1, .int fd), (0, .ref 38)]) dX7_word_37 (by decide) rfl ?_
      refine r_iconst (v := 0) dX7_word_38 rfl ?_
      refine r_istore (loc' := [(4, .int 0), (3, .int 1), (2, .int (nI k)), (1, .int fd), (0, .ref 38)]) dX7_word_39 (by decide) rfl ?_
      refine qG.pick [0, 1, 2, 3, 4] rfl ?_
      refine wi_loop hE hz hk12 h6 hse hez m41 m5 m6 hn (fun hx => ?_) (fun hx => ?_) 6 0 (by omega) (fun j hj => absurd hj (Nat.not_lt_zero _))
      · refine r_iload_n dX7_word_109 rfl ?_
        refine r_if_eq (tgt := 117) dX7_word_110 (by decide) (fun hqz => absurd hqz (by decide)) (fun _ => ?_)
        refine r_iload_n dX7_word_113 rfl ?_
        refine r_goto (tgt := 118) dX7_word_114 (by decide) ?_
        refine r_istore_n (loc' := [(1, .int (nI k)), (3, .int 1), (2, .int (nI k)), (0, .ref 38)]) dX7_word_118 (by decide) rfl ?_
        refine r_iinc (v := (nI (k + 1))) (loc' := [(2, .int (nI (k + 1))), (1, .int (nI k)), (3, .int 1), (0, .ref 38)]) dX7_word_119 rfl ((nI_succ _).symm) (by decide) rfl ?_
        refine r_goto (tgt := 4) dX7_word_122 (by decide) ?_
        refine qG.pick [0, 1, 3] rfl ?_
        rw [wdF_t hx] at hs1
        exact hs1
      · refine r_iload_n dX7_word_109 rfl ?_
        refine r_if_eq (tgt := 117) dX7_word_110 (by decide) (fun _ => ?_) (fun hqz => absurd (by decide) hqz)
        refine r_iload_n dX7_word_117 rfl ?_
        refine r_istore_n (loc' := [(1, .int fd), (3, .int 0), (2, .int (nI k)), (0, .ref 38)]) dX7_word_118 (by decide) rfl ?_
        refine r_iinc (v := (nI (k + 1))) (loc' := [(2, .int (nI (k + 1))), (1, .int fd), (3, .int 0), (0, .ref 38)]) dX7_word_119 rfl ((nI_succ _).symm) (by decide) rfl ?_
        refine r_goto (tgt := 4) dX7_word_122 (by decide) ?_
        refine qG.pick [0, 1, 3] rfl ?_
        rw [wdF_f hx, efd] at hs1
        exact hs1
    · have hx : ¬ mt f s e k := fun y => h6 y.1
      rw [wdF_f hx] at hs1
      generalize wdF f s e k = fd at *
      refine r_iload_n dX7_word_4 rfl ?_
      refine r_bipush (v := 12) dX7_word_5 rfl ?_
      refine r_icmp_ge (tgt := 125) dX7_word_7 (by decide) (fun hqz => absurd hqz (nI_ge hk12 (by decide))) (fun _ => ?_)
      refine r_aload_n dX7_word_10 rfl ?_
      refine r_getI dX7_word_11 fl_X7_131 (ly_38 hE) rfl ?_
      refine r_rw (y := 1) (by rw [m7, hw]; rfl) ?_
      refine r_iconst (v := 1) dX7_word_14 rfl ?_
      refine r_icmp_ne (tgt := 36) dX7_word_15 (by decide) (fun hqz => absurd (by decide) hqz) (fun _ => ?_)
      refine r_aload_n dX7_word_18 rfl ?_
      refine r_getI dX7_word_19 fl_X7_122 (ly_38 hE) rfl ?_
      refine r_rw (y := nI e) m5 ?_
      refine r_aload_n dX7_word_22 rfl ?_
      refine r_getI dX7_word_23 fl_X7_125 (ly_38 hE) rfl ?_
      refine r_rw (y := nI s) m6 ?_
      refine r_isub dX7_word_26 ?_
      refine r_rw (y := nI (e - s)) (pk_sub hse) ?_
      refine r_bipush (v := 6) dX7_word_27 rfl ?_
      refine r_icmp_gt (tgt := 36) dX7_word_29 (by decide) (fun _ => ?_) (fun hqz => absurd (nI_lt (a := 6) (by omega) (by omega)) hqz)
      refine r_iconst (v := 0) dX7_word_36 rfl ?_
      refine r_istore_n (loc' := [(3, .int 0), (2, .int (nI k)), (1, .int fd), (0, .ref 38)]) dX7_word_37 (by decide) rfl ?_
      refine r_iconst (v := 0) dX7_word_38 rfl ?_
      refine r_istore (loc' := [(4, .int 0), (3, .int 0), (2, .int (nI k)), (1, .int fd), (0, .ref 38)]) dX7_word_39 (by decide) rfl ?_
      refine r_iload_n dX7_word_41 rfl ?_
      refine r_if_eq (tgt := 109) dX7_word_42 (by decide) (fun _ => ?_) (fun hqz => absurd (by decide) hqz)
      refine r_iload_n dX7_word_109 rfl ?_
      refine r_if_eq (tgt := 117) dX7_word_110 (by decide) (fun _ => ?_) (fun hqz => absurd (by decide) hqz)
      refine r_iload_n dX7_word_117 rfl ?_
      refine r_istore_n (loc' := [(1, .int fd), (4, .int 0), (3, .int 0), (2, .int (nI k)), (0, .ref 38)]) dX7_word_118 (by decide) rfl ?_
      refine r_iinc (v := (nI (k + 1))) (loc' := [(2, .int (nI (k + 1))), (1, .int fd), (4, .int 0), (3, .int 0), (0, .ref 38)]) dX7_word_119 rfl ((nI_succ _).symm) (by decide) rfl ?_
      refine r_goto (tgt := 4) dX7_word_122 (by decide) ?_
      refine qG.pick [0, 1, 4] rfl ?_
      exact hs1
set_option maxRecDepth 100000 in
set_option maxHeartbeats 1000000 in
theorem wn_loop (hE : hM E) (hm : MK A f z i) (hw : ¬ so f z (tS f z i) = 1) (h : Ph (some (.int (-1))) A L) : ∀ (m k : Nat), k + m = 12 → qG E mm_X7_word d 4 [(2, .int (nI k)), (1, .int (-1)), (0, .ref 38)] [] A L Ph := by
  have m7 := hm.2.2.2.2
  have h4 := so_4 f z (tS f z i)
  intro m
  induction m with
  | zero =>
    intro k hk
    have hk : k = 12 := by omega
    subst hk
    refine r_iload_n dX7_word_4 rfl ?_
    refine r_bipush (v := 12) dX7_word_5 rfl ?_
    refine r_icmp_ge (tgt := 125) dX7_word_7 (by decide) (fun _ => ?_) (fun hqz => absurd (nI_le (Nat.le_refl 12) (by decide)) hqz)
    refine r_iload_n dX7_word_125 rfl ?_
    refine r_ireturn dX7_word_126 rfl rfl ?_
    exact h
  | succ m ih =>
    intro k hk
    have hs1 := ih (k + 1) (by omega)
    refine r_iload_n dX7_word_4 rfl ?_
    refine r_bipush (v := 12) dX7_word_5 rfl ?_
    refine r_icmp_ge (tgt := 125) dX7_word_7 (by decide) (fun hqz => absurd hqz (nI_ge (show k < 12 by omega) (by decide))) (fun _ => ?_)
    refine r_aload_n dX7_word_10 rfl ?_
    refine r_getI dX7_word_11 fl_X7_131 (ly_38 hE) rfl ?_
    refine r_rw (y := nI (so f z (tS f z i))) m7 ?_
    refine r_iconst (v := 1) dX7_word_14 rfl ?_
    refine r_icmp_ne (tgt := 36) dX7_word_15 (by decide) (fun _ => ?_) (fun hqz => absurd hqz (fun y => hw ((nI_eq (b := 1) (by omega) (by decide)).mp y)))
    refine r_iconst (v := 0) dX7_word_36 rfl ?_
    refine r_istore_n (loc' := [(3, .int 0), (2, .int (nI k)), (1, .int (-1)), (0, .ref 38)]) dX7_word_37 (by decide) rfl ?_
    refine r_iconst (v := 0) dX7_word_38 rfl ?_
    refine r_istore (loc' := [(4, .int 0), (3, .int 0), (2, .int (nI k)), (1, .int (-1)), (0, .ref 38)]) dX7_word_39 (by decide) rfl ?_
    refine r_iload_n dX7_word_41 rfl ?_
    refine r_if_eq (tgt := 109) dX7_word_42 (by decide) (fun _ => ?_) (fun hqz => absurd (by decide) hqz)
    refine r_iload_n dX7_word_109 rfl ?_
    refine r_if_eq (tgt := 117) dX7_word_110 (by decide) (fun _ => ?_) (fun hqz => absurd (by decide) hqz)
    refine r_iload_n dX7_word_117 rfl ?_
    refine r_istore_n (loc' := [(1, .int (-1)), (4, .int 0), (3, .int 0), (2, .int (nI k)), (0, .ref 38)]) dX7_word_118 (by decide) rfl ?_
    refine r_iinc (v := (nI (k + 1))) (loc' := [(2, .int (nI (k + 1))), (1, .int (-1)), (4, .int 0), (3, .int 0), (0, .ref 38)]) dX7_word_119 rfl ((nI_succ _).symm) (by decide) rfl ?_
    refine r_goto (tgt := 4) dX7_word_122 (by decide) ?_
    refine qG.pick [0, 1, 4] rfl ?_
    exact hs1
set_option maxRecDepth 100000 in
set_option maxHeartbeats 1000000 in
theorem sp_word (hE : hM E) (hz : z ≤ 160) (hm : MK A f z i) (hn : ∀ j, j < 72 → A 44 j = mNm j) (h : Ph (some (.int (wv f z i))) A L) : qC E mm_X7_word d [.ref 38] A L Ph := by
  unfold wv at h
  by_cases hw : so f z (tS f z i) = 1
  · rw [if_pos hw] at h
    refine qC.enter (by decide) (Nat.le_of_ble_eq_true rfl) ?_
    refine r_iconst (v := (-1)) dX7_word_0 rfl ?_
    refine r_istore_n (loc' := [(1, .int (-1)), (0, .ref 38)]) dX7_word_1 (by decide) rfl ?_
    refine r_iconst (v := 0) dX7_word_2 rfl ?_
    refine r_istore_n (loc' := [(2, .int 0), (1, .int (-1)), (0, .ref 38)]) dX7_word_3 (by decide) rfl ?_
    refine qG.pick [0, 1, 2] rfl ?_
    exact wo_loop hE hz hm hn hw h 12 0 (by omega)
  · rw [if_neg hw] at h
    refine qC.enter (by decide) (Nat.le_of_ble_eq_true rfl) ?_
    refine r_iconst (v := (-1)) dX7_word_0 rfl ?_
    refine r_istore_n (loc' := [(1, .int (-1)), (0, .ref 38)]) dX7_word_1 (by decide) rfl ?_
    refine r_iconst (v := 0) dX7_word_2 rfl ?_
    refine r_istore_n (loc' := [(2, .int 0), (1, .int (-1)), (0, .ref 38)]) dX7_word_3 (by decide) rfl ?_
    refine qG.pick [0, 1, 2] rfl ?_
    exact wn_loop hE hm hw h 12 0 (by omega)
set_option maxRecDepth 100000 in
set_option maxHeartbeats 1000000 in
theorem nt_loop (hE : hM E) (hz : z ≤ 160) {s e : Nat} (hez : e ≤ z) (m41 : ∀ j, j < z → A 41 j = f j) (m5 : A 38 5 = nI e) (h : Ph (some (.int (amF f s (e - s)))) A L) : ∀ (m k : Nat), s + k + m = e → qG E mm_X7_numberThere d 7 [(2, .int (nI (s + k))), (1, .int (amF f s k)), (0, .ref 38)] [] A L Ph := by
  intro m
  induction m with
  | zero =>
    intro k hk
    have e1 : e - s = k := by omega
    rw [e1] at h
    refine r_iload_n dX7_numberThere_7 rfl ?_
    refine r_aload_n dX7_numberThere_8 rfl ?_
    refine r_getI dX7_numberThere_9 fl_X7_122 (ly_38 hE) rfl ?_
    refine r_rw (y := nI e) m5 ?_
    refine r_icmp_ge (tgt := 36) dX7_numberThere_12 (by decide) (fun _ => ?_) (fun hqz => absurd (nI_le (by omega) (by omega)) hqz)
    refine r_iload_n dX7_numberThere_36 rfl ?_
    refine r_ireturn dX7_numberThere_37 rfl rfl ?_
    exact h
  | succ m ih =>
    intro k hk
    refine r_iload_n dX7_numberThere_7 rfl ?_
    refine r_aload_n dX7_numberThere_8 rfl ?_
    refine r_getI dX7_numberThere_9 fl_X7_122 (ly_38 hE) rfl ?_
    refine r_rw (y := nI e) m5 ?_
    refine r_icmp_ge (tgt := 36) dX7_numberThere_12 (by decide) (fun hqz => absurd hqz (nI_ge (by omega) (by omega))) (fun _ => ?_)
    refine r_bipush (v := 10) dX7_numberThere_15 rfl ?_
    refine r_iload_n dX7_numberThere_17 rfl ?_
    refine r_imul dX7_numberThere_18 ?_
    refine r_aload_n dX7_numberThere_19 rfl ?_
    refine r_getR dX7_numberThere_20 fl_X7_16 (ly_38 hE) rfl ?_
    refine r_iload_n dX7_numberThere_23 rfl ?_
    refine r_ialdN dX7_numberThere_24 (ly_41 hE) (by omega) (by decide) ?_
    refine r_rw (y := f (s + k)) (m41 _ (by omega)) ?_
    refine r_iadd dX7_numberThere_25 ?_
    refine r_bipush (v := 48) dX7_numberThere_26 rfl ?_
    refine r_isub dX7_numberThere_28 ?_
    refine r_rw (y := amF f s (k + 1)) (by rw [amF, Int32.mul_comm]) ?_
    refine r_istore_n (loc' := [(1, .int (amF f s (k + 1))), (2, .int (nI (s + k))), (0, .ref 38)]) dX7_numberThere_29 (by decide) rfl ?_
    refine r_iinc (v := (nI ((s + k) + 1))) (loc' := [(2, .int (nI ((s + k) + 1))), (1, .int (amF f s (k + 1))), (0, .ref 38)]) dX7_numberThere_30 rfl ((nI_succ _).symm) (by decide) rfl ?_
    refine r_goto (tgt := 7) dX7_numberThere_33 (by decide) ?_
    refine qG.pick [0, 1, 2] rfl ?_
    exact ih (k + 1) (by omega)
set_option maxRecDepth 100000 in
set_option maxHeartbeats 1000000 in
theorem sp_numberThere (hE : hM E) (hz : z ≤ 160) (hm : MK A f z i) (h : Ph (some (.int (am f z i))) A L) : qC E mm_X7_numberThere d [.ref 38] A L Ph := by
  obtain ⟨m4, m41, m5, m6, m7⟩ := hm
  have hse := tS_le (f := f) hz i
  have hez := (tE_le (f := f) hz (i + 1)).1
  refine qC.enter (by decide) (Nat.le_of_ble_eq_true rfl) ?_
  refine r_iconst (v := 0) dX7_numberThere_0 rfl ?_
  refine r_istore_n (loc' := [(1, .int 0), (0, .ref 38)]) dX7_numberThere_1 (by decide) rfl ?_
  refine r_aload_n dX7_numberThere_2 rfl ?_
  refine r_getI dX7_numberThere_3 fl_X7_125 (ly_38 hE) rfl ?_
  refine r_rw (y := nI (tS f z i)) m6 ?_
  refine r_istore_n (loc' := [(2, .int (nI (tS f z i))), (1, .int 0), (0, .ref 38)]) dX7_numberThere_6 (by decide) rfl ?_
  refine qG.pick [0, 1, 2] rfl ?_
  exact nt_loop hE hz hez m41 m5 h (tE f z (i + 1) - tS f z i) 0 (by omega)
end MLEX
