/-! the class reads a text -/
def CS (A : mA) (f : Nat → Int32) (z T i : Nat) (out : List Int32) : Prop := CT A f z i ∧ A 4 7 = -1 ∧ A 3 4 = nI T ∧ A 3 3 = nI out.length ∧ ∀ j, j < out.length → A 22 (160 * T + j) = enc (out.getD j 0)
/-- behind a fault -/
def CX (A : mA) (f : Nat → Int32) (z T i : Nat) : Prop := A 4 7 = nI (tS f z i) ∧ A 4 5 = 302 ∧ A 3 4 = nI T ∧ ∃ w, w ≤ 160 ∧ A 3 3 = nI w
def CF (T : Nat) (A A' : mA) : Prop := Fr [3, 4, 22] A A' ∧ (∀ j, j < 160 * T → A' 22 j = A 22 j) ∧ A' 3 4 = A 3 4 ∧ A' 4 2 = A 4 2
theorem CF.rf {T : Nat} {A : mA} : CF T A A := ⟨Fr.rf, fun _ _ => rfl, rfl, rfl⟩
theorem CF.tr {T : Nat} {A B C : mA} (h1 : CF T A B) (h2 : CF T B C) : CF T A C := ⟨h1.1.tr h2.1, fun j hj => (h2.2.1 j hj).trans (h1.2.1 j hj), h2.2.2.1.trans h1.2.2.1, h2.2.2.2.trans h1.2.2.2⟩
theorem F4.cf {T : Nat} {X : List Nat} {A A' : mA} (h : F4 X A A') (h2 : 2 ∉ X) : CF T A A' := ⟨h.1.mo (by decide), fun j _ => by rw [h.1 22 (by decide)], by rw [h.1 3 (by decide)], h.2 2 h2⟩
def CQ (A : mA) (f : Nat → Int32) (z T : Nat) (out : List Int32) : rsT → Prop
  | .inl j => CX A f z T j
  | .inr (j, c) => CS A f z T j (out ++ c)
abbrev PC (E : mE) (f : Nat → Int32) (z T : Nat) (M : mM) (as : List Value) (e i : Nat) (out : List Int32) (r : rsT) : Prop := ∀ (A : mA) (L : mJ) (Ph : mP), CS A f z T i out → (∀ A', CF T A A' → CQ A' f z T out r → Ph none A' L) → qC E M e as A L Ph
def HC (E : mE) (f : Nat → Int32) (z T F : Nat) (M : mM) (lv : Int32) (k rk dk : Nat) : Prop := ∀ (op i e : Nat) (out : List Int32), i ≤ tE f z i → out.length ≤ i → op ≤ 5 → 16 * (161 - i) + rk + 1 ≤ F → 10 + 12 * (5 - op) + dk ≤ e → PC E f z T M [.ref 4, .int lv, .int (nI op)] (e + 1) i out (pz (tk f z) (am f z) F k op i)
def HO (E : mE) (f : Nat → Int32) (z T F : Nat) (M : mM) (k rk dk : Nat) : Prop := ∀ (op i e : Nat) (out : List Int32), i ≤ tE f z i → out.length ≤ i → op ≤ 5 → 16 * (161 - i) + rk + 1 ≤ F → 10 + 12 * (5 - op) + dk ≤ e → PC E f z T M [.ref 4, .int (nI op)] (e + 1) i out (pz (tk f z) (am f z) F k op i)
theorem vl_up {f : Nat → Int32} {z i : Nat} (hz : z ≤ 160) (hf : ∀ j, j < z → ∃ b, b < 256 ∧ f j = nI b) (h : i ≤ tE f z i) (ht : tk f z i ≠ 301) : i + 1 ≤ tE f z (i + 1) ∧ i < 160 := by
  have h0 : so f z (tS f z i) ≠ 0 := by
    intro q
    apply ht
    unfold tk tkA
    rw [if_pos q]
  have h1 := tE_up hz h0
  have h2 := (tE_le (f := f) hz (i + 1)).1
  omega
theorem am_ok {f : Nat → Int32} {z i : Nat} (hz : z ≤ 160) (hf : ∀ j, j < z → ∃ b, b < 256 ∧ f j = nI b) (ht : tk f z i = 300) : ∃ v, v < 10000 ∧ am f z i = nI v := by
  have hs := (tE_le (f := f) hz i).2.2
  rcases tk_cases (s := tS f z i) hf with ⟨_, c⟩ | ⟨_, ⟨c, _⟩ | ⟨k, hk, c, _⟩⟩ | ⟨c0, ⟨c4, c⟩ | ⟨_, c⟩⟩ | ⟨_, b, hb, _, ⟨hi, c⟩ | ⟨_, c⟩⟩
  · exact absurd (c.symm.trans ht) (by decide)
  · exact absurd (c.symm.trans ht) (by decide)
  · have := (nI_eq (a := k) (b := 300) (by omega) (by decide)).mp (c.symm.trans ht)
    omega
  · have hl := so_lt (f := f) (z := z) (p := tS f z i) (by omega)
    have he : eo f z (tS f z i) = rn isd f z 160 (tS f z i) := by
      unfold eo
      rw [if_neg (by omega), if_neg (by omega), if_pos c0]
    have hd := (rn_ok (P := isd) (f := f) (z := z) 160 (tS f z i) hs).2.2.1
    rw [← he] at hd
    obtain ⟨v, hv, e⟩ := amF_ok (f := f) (s := tS f z i) (eo f z (tS f z i) - tS f z i) (fun j hj => hd _ (by omega) (by omega))
    refine ⟨v, Nat.lt_of_lt_of_le hv (Nat.pow_le_pow_right (n := 10) (by decide) c4), ?_⟩
    unfold am
    rw [tE_s]
    exact e
  · exact absurd (c.symm.trans ht) (by decide)
  · have := (nI_eq (a := b) (b := 300) (by omega) (by decide)).mp (c.symm.trans ht)
    omega
  · exact absurd (c.symm.trans ht) (by decide)
theorem pzv {f : Nat → Int32} {z : Nat} (hz : z ≤ 160) (hf : ∀ j, j < z → ∃ b, b < 256 ∧ f j = nI b) {F k op i j : Nat} {c : List Int32} (hk : k ≤ 5 ∨ 10 ≤ k) (h : pz (tk f z) (am f z) F k op i = .inr (j, c)) (hi : i ≤ tE f z i) : j ≤ tE f z j ∧ i ≤ j ∧ (k < 10 → i < j) ∧ c.length ≤ j - i := by
  have h := pz_ok (vl := fun i => i ≤ tE f z i) (fun i hi ht => (vl_up hz hf hi ht).1) (fun i ht => am_ok hz hf ht) F k op i j c hk h hi
  exact ⟨h.1, h.2.1, h.2.2.1, h.2.2.2.1⟩
theorem getD_app1 {c : List Int32} {x : Int32} {j : Nat} (h : j < c.length) : (c ++ [x]).getD j 0 = c.getD j 0 := by
  rw [List.getD_eq_getElem?_getD, List.getD_eq_getElem?_getD, List.getElem?_append_left h]
theorem getD_app2 {c : List Int32} {x : Int32} : (c ++ [x]).getD c.length 0 = x := by
  rw [List.getD_eq_getElem?_getD, List.getElem?_append_right (Nat.le_refl _), Nat.sub_self]
  rfl
def addA (A : mA) (T w : Nat) (x : Int32) : mA := s2 (s2 A 22 (160 * T + w) x) 3 3 (nI (w + 1))
theorem addA_cf {A : mA} {T w : Nat} {x : Int32} : CF T A (addA A T w x) := by
  unfold addA
  refine ⟨(Fr.s2 (by decide)).tr (Fr.s2 (by decide)), fun j hj => ?_, ?_, ?_⟩
  · rw [s2_ne (by decide), s2_nj (fun _ => by omega)]
  · rw [s2_nj (fun _ => by decide), s2_ne (by decide)]
  · rw [s2_ne (by decide), s2_ne (by decide)]
theorem addA_4 {A : mA} {T w : Nat} {x : Int32} : addA A T w x 4 = A 4 := by unfold addA; rw [s2_ne (by decide), s2_ne (by decide)]
theorem addA_25 {A : mA} {T w : Nat} {x : Int32} : addA A T w x 25 = A 25 := by unfold addA; rw [s2_ne (by decide), s2_ne (by decide)]
theorem CS.add {A : mA} {f : Nat → Int32} {z T i : Nat} {out : List Int32} {x y : Int32} (h : CS A f z T i out) (hx : x = enc y) : CS (addA A T out.length x) f z T i (out ++ [y]) := by
  obtain ⟨h1, h2, h3, h4, h5⟩ := h
  refine ⟨?_, by rw [addA_4]; exact h2, ?_, ?_, fun j hj => ?_⟩
  · unfold CT at *
    rw [addA_4, addA_25]
    exact h1
  · rw [addA_cf.2.2.1]; exact h3
  · unfold addA
    rw [s2_same, List.length_append, List.length_singleton]
  · unfold addA
    rw [s2_ne (by decide)]
    rw [List.length_append, List.length_singleton] at hj
    rcases Nat.lt_or_ge j out.length with q | q
    · rw [s2_nj (fun _ => by omega), getD_app1 q]; exact h5 j q
    · rw [show j = out.length by omega, s2_same, getD_app2]; exact hx
theorem CS.adv {A A' : mA} {f : Nat → Int32} {z T i i' : Nat} {out : List Int32} (h : CS A f z T i out) (f1 : F4 [3, 4, 5, 6] A A') (hc : CT A' f z i') : CS A' f z T i' out := by
  obtain ⟨h1, h2, h3, h4, h5⟩ := h
  refine ⟨hc, (f1.2 7 (by decide)).trans h2, ?_, ?_, ?_⟩
  · rw [f1.1 3 (by decide)]; exact h3
  · rw [f1.1 3 (by decide)]; exact h4
  · rw [f1.1 22 (by decide)]; exact h5
theorem CX.add {A : mA} {f : Nat → Int32} {z T i w : Nat} {x : Int32} (h : CX A f z T i) (hw : w < 160) : CX (addA A T w x) f z T i := by
  obtain ⟨h1, h2, h3, h4⟩ := h
  refine ⟨by rw [addA_4]; exact h1, by rw [addA_4]; exact h2, by rw [addA_cf.2.2.1]; exact h3, w + 1, by omega, ?_⟩
  unfold addA
  exact s2_same
def dT (t : Int32) : Prop := t = 9 ∨ t = 10 ∨ t = 43 ∨ t = 45 ∨ t = 42 ∨ t = 60 ∨ t = 61
theorem jn_dT {k : Nat} {t : Int32} (h : jn k t = true) : dT t := by
  unfold jn at h
  unfold dT
  split at h
  · exact Or.inl (of_decide_eq_true h)
  · split at h
    · exact Or.inr (Or.inl (of_decide_eq_true h))
    · split at h
      · rcases of_decide_eq_true h with q | q
        · exact Or.inr (Or.inr (Or.inl q))
        · exact Or.inr (Or.inr (Or.inr (Or.inl q)))
      · exact Or.inr (Or.inr (Or.inr (Or.inr (Or.inl (of_decide_eq_true h)))))
theorem dT_ne {t : Int32} (h : dT t) : t ≠ 301 := by
  rcases h with rfl | rfl | rfl | rfl | rfl | rfl | rfl <;> decide
section CPAR
variable {E : mE} {d : Nat} {A : mA} {L : mJ} {Ph : mP} {f : Nat → Int32} {z T i : Nat} {out : List Int32}
set_option maxRecDepth 100000 in
set_option maxHeartbeats 1000000 in
theorem sp_stepOf {t : Int32} (ht : dT t) (h : Ph (some (.int (enc (dO t)))) A L) : qC E mm_X1_stepOf d [.int t] A L Ph := by
  refine qC.enter (by decide) (Nat.le_of_ble_eq_true rfl) ?_
  rcases ht with rfl | rfl | rfl | rfl | rfl | rfl | rfl
  · refine r_iload_n dX1_stepOf_0 rfl ?_
    refine r_lookup (off := 59) (tgt := 60) dX1_stepOf_1 (by decide) (by decide) (by decide) ?_
    refine r_bipush (v := (-9)) dX1_stepOf_60 rfl ?_
    refine r_ireturn dX1_stepOf_62 rfl rfl ?_
    exact h
  · refine r_iload_n dX1_stepOf_0 rfl ?_
    refine r_lookup (off := 62) (tgt := 63) dX1_stepOf_1 (by decide) (by decide) (by decide) ?_
    refine r_bipush (v := (-10)) dX1_stepOf_63 rfl ?_
    refine r_ireturn dX1_stepOf_65 rfl rfl ?_
    exact h
  · refine r_iload_n dX1_stepOf_0 rfl ?_
    refine r_lookup (off := 71) (tgt := 72) dX1_stepOf_1 (by decide) (by decide) (by decide) ?_
    refine r_bipush (v := (-13)) dX1_stepOf_72 rfl ?_
    refine r_ireturn dX1_stepOf_74 rfl rfl ?_
    exact h
  · refine r_iload_n dX1_stepOf_0 rfl ?_
    refine r_lookup (off := 74) (tgt := 75) dX1_stepOf_1 (by decide) (by decide) (by decide) ?_
    refine r_bipush (v := (-14)) dX1_stepOf_75 rfl ?_
    refine r_ireturn dX1_stepOf_77 rfl rfl ?_
    exact h
  · refine r_iload_n dX1_stepOf_0 rfl ?_
    refine r_lookup (off := 77) (tgt := 78) dX1_stepOf_1 (by decide) (by decide) (by decide) ?_
    refine r_bipush (v := (-15)) dX1_stepOf_78 rfl ?_
    refine r_ireturn dX1_stepOf_80 rfl rfl ?_
    exact h
  · refine r_iload_n dX1_stepOf_0 rfl ?_
    refine r_lookup (off := 65) (tgt := 66) dX1_stepOf_1 (by decide) (by decide) (by decide) ?_
    refine r_bipush (v := (-11)) dX1_stepOf_66 rfl ?_
    refine r_ireturn dX1_stepOf_68 rfl rfl ?_
    exact h
  · refine r_iload_n dX1_stepOf_0 rfl ?_
    refine r_lookup (off := 68) (tgt := 69) dX1_stepOf_1 (by decide) (by decide) (by decide) ?_
    refine r_bipush (v := (-12)) dX1_stepOf_69 rfl ?_
    refine r_ireturn dX1_stepOf_71 rfl rfl ?_
    exact h
set_option maxRecDepth 100000 in
set_option maxHeartbeats 1000000 in
theorem sp_joins0 (hE : hC E) {t : Int32} (h5 : A 4 5 = t) (h1 : jn 0 t = true → Ph (some (.int 1)) A L) (h0 : ¬ jn 0 t = true → Ph (some (.int 0)) A L) : qC E mm_X1_joins d [.ref 4, .int 0] A L Ph := by
  refine qC.enter (by decide) (Nat.le_of_ble_eq_true rfl) ?_
  refine r_iload_n dX1_joins_0 rfl ?_
  refine r_tableIn (off := 27) (tgt := 28) dX1_joins_1 (by decide) (by decide) rfl (by decide) ?_
  refine r_aload_n dX1_joins_28 rfl ?_
  refine r_getI dX1_joins_29 fl_X1_52 (ly_4 hE) rfl ?_
  refine r_rw (y := t) h5 ?_
  refine r_bipush (v := 9) dX1_joins_32 rfl ?_
  refine r_icmp_ne (tgt := 41) dX1_joins_34 (by decide) (fun b34 => ?_) (fun b34 => ?_)
  · refine r_iconst (v := 0) dX1_joins_41 rfl ?_
    refine r_ireturn dX1_joins_42 rfl (by decide) ?_
    first | exact h1 (decide_eq_true b34) | exact h0 (fun q => b34 (of_decide_eq_true q))
  · refine r_iconst (v := 1) dX1_joins_37 rfl ?_
    refine r_goto (tgt := 42) dX1_joins_38 (by decide) ?_
    refine r_ireturn dX1_joins_42 rfl (by decide) ?_
    first | exact h1 (decide_eq_true b34) | exact h0 (fun q => b34 (of_decide_eq_true q))
set_option maxRecDepth 100000 in
set_option maxHeartbeats 1000000 in
theorem sp_joins1 (hE : hC E) {t : Int32} (h5 : A 4 5 = t) (h1 : jn 1 t = true → Ph (some (.int 1)) A L) (h0 : ¬ jn 1 t = true → Ph (some (.int 0)) A L) : qC E mm_X1_joins d [.ref 4, .int 1] A L Ph := by
  refine qC.enter (by decide) (Nat.le_of_ble_eq_true rfl) ?_
  refine r_iload_n dX1_joins_0 rfl ?_
  refine r_tableIn (off := 42) (tgt := 43) dX1_joins_1 (by decide) (by decide) rfl (by decide) ?_
  refine r_aload_n dX1_joins_43 rfl ?_
  refine r_getI dX1_joins_44 fl_X1_52 (ly_4 hE) rfl ?_
  refine r_rw (y := t) h5 ?_
  refine r_bipush (v := 10) dX1_joins_47 rfl ?_
  refine r_icmp_ne (tgt := 56) dX1_joins_49 (by decide) (fun b49 => ?_) (fun b49 => ?_)
  · refine r_iconst (v := 0) dX1_joins_56 rfl ?_
    refine r_ireturn dX1_joins_57 rfl (by decide) ?_
    first | exact h1 (decide_eq_true b49) | exact h0 (fun q => b49 (of_decide_eq_true q))
  · refine r_iconst (v := 1) dX1_joins_52 rfl ?_
    refine r_goto (tgt := 57) dX1_joins_53 (by decide) ?_
    refine r_ireturn dX1_joins_57 rfl (by decide) ?_
    first | exact h1 (decide_eq_true b49) | exact h0 (fun q => b49 (of_decide_eq_true q))
set_option maxRecDepth 100000 in
set_option maxHeartbeats 1000000 in
theorem sp_joins2 (hE : hC E) {t : Int32} (h5 : A 4 5 = t) (h1 : jn 2 t = true → Ph (some (.int 1)) A L) (h0 : ¬ jn 2 t = true → Ph (some (.int 0)) A L) : qC E mm_X1_joins d [.ref 4, .int 2] A L Ph := by
  refine qC.enter (by decide) (Nat.le_of_ble_eq_true rfl) ?_
  refine r_iload_n dX1_joins_0 rfl ?_
  refine r_tableIn (off := 57) (tgt := 58) dX1_joins_1 (by decide) (by decide) rfl (by decide) ?_
  refine r_aload_n dX1_joins_58 rfl ?_
  refine r_getI dX1_joins_59 fl_X1_52 (ly_4 hE) rfl ?_
  refine r_rw (y := t) h5 ?_
  refine r_bipush (v := 43) dX1_joins_62 rfl ?_
  refine r_icmp_eq (tgt := 76) dX1_joins_64 (by decide) (fun b64 => ?_) (fun b64 => ?_)
  · refine r_iconst (v := 1) dX1_joins_76 rfl ?_
    refine r_goto (tgt := 81) dX1_joins_77 (by decide) ?_
    refine r_ireturn dX1_joins_81 rfl (by decide) ?_
    first | exact h1 (decide_eq_true (Or.inl b64)) | exact h1 (decide_eq_true (Or.inr b73)) | exact h0 (fun q => (of_decide_eq_true q).elim b64 b73)
  · refine r_aload_n dX1_joins_67 rfl ?_
    refine r_getI dX1_joins_68 fl_X1_52 (ly_4 hE) rfl ?_
    refine r_rw (y := t) h5 ?_
    refine r_bipush (v := 45) dX1_joins_71 rfl ?_
    refine r_icmp_ne (tgt := 80) dX1_joins_73 (by decide) (fun b73 => ?_) (fun b73 => ?_)
    · refine r_iconst (v := 0) dX1_joins_80 rfl ?_
      refine r_ireturn dX1_joins_81 rfl (by decide) ?_
      first | exact h1 (decide_eq_true (Or.inl b64)) | exact h1 (decide_eq_true (Or.inr b73)) | exact h0 (fun q => (of_decide_eq_true q).elim b64 b73)
    · refine r_iconst (v := 1) dX1_joins_76 rfl ?_
      refine r_goto (tgt := 81) dX1_joins_77 (by decide) ?_
      refine r_ireturn dX1_joins_81 rfl (by decide) ?_
      first | exact h1 (decide_eq_true (Or.inl b64)) | exact h1 (decide_eq_true (Or.inr b73)) | exact h0 (fun q => (of_decide_eq_true q).elim b64 b73)
set_option maxRecDepth 100000 in
set_option maxHeartbeats 1000000 in
theorem sp_joins3 (hE : hC E) {t : Int32} (h5 : A 4 5 = t) (h1 : jn 3 t = true → Ph (some (.int 1)) A L) (h0 : ¬ jn 3 t = true → Ph (some (.int 0)) A L) : qC E mm_X1_joins d [.ref 4, .int 3] A L Ph := by
  refine qC.enter (by decide) (Nat.le_of_ble_eq_true rfl) ?_
  refine r_iload_n dX1_joins_0 rfl ?_
  refine r_tableOut (tgt := 82) dX1_joins_1 (by decide) (by decide) ?_
  refine r_aload_n dX1_joins_82 rfl ?_
  refine r_getI dX1_joins_83 fl_X1_52 (ly_4 hE) rfl ?_
  refine r_rw (y := t) h5 ?_
  refine r_bipush (v := 42) dX1_joins_86 rfl ?_
  refine r_icmp_ne (tgt := 95) dX1_joins_88 (by decide) (fun b88 => ?_) (fun b88 => ?_)
  · refine r_iconst (v := 0) dX1_joins_95 rfl ?_
    refine r_ireturn dX1_joins_96 rfl (by decide) ?_
    first | exact h1 (decide_eq_true b88) | exact h0 (fun q => b88 (of_decide_eq_true q))
  · refine r_iconst (v := 1) dX1_joins_91 rfl ?_
    refine r_goto (tgt := 96) dX1_joins_92 (by decide) ?_
    refine r_ireturn dX1_joins_96 rfl (by decide) ?_
    first | exact h1 (decide_eq_true b88) | exact h0 (fun q => b88 (of_decide_eq_true q))
set_option maxRecDepth 100000 in
set_option maxHeartbeats 1000000 in
theorem sp_add {w : Nat} {x : Int32} (hE : hC E) (hT : T < 6) (h4 : A 3 4 = nI T) (h3 : A 3 3 = nI w) (hw : w < 160) (h : Ph none (addA A T w x) L) : qC E mm_X5_add (d + 1) [.ref 3, .int x] A L Ph := by
  refine qC.enter (by decide) (Nat.le_of_ble_eq_true rfl) ?_
  refine r_aload_n dX5_add_0 rfl ?_
  refine r_getI dX5_add_1 fl_X5_25 (ly_3 hE) rfl ?_
  refine r_rw (y := nI T) h4 ?_
  refine r_bipush (v := 6) dX5_add_4 rfl ?_
  refine r_callN2 dX5_add_6 lk_X5_28 (Nat.le_of_ble_eq_true rfl) (win_t (lim := 6) rfl (by decide) hT ?_)
  refine r_if_eq (tgt := 54) dX5_add_9 (by decide) (fun hqz => absurd hqz (by decide)) (fun _ => ?_)
  refine r_aload_n dX5_add_12 rfl ?_
  refine r_getI dX5_add_13 fl_X5_21 (ly_3 hE) rfl ?_
  refine r_rw (y := nI w) h3 ?_
  refine r_sipush (v := 160) dX5_add_16 rfl ?_
  refine r_callN2 dX5_add_19 lk_X5_28 (Nat.le_of_ble_eq_true rfl) (win_t (lim := 160) rfl (by decide) hw ?_)
  refine r_if_eq (tgt := 54) dX5_add_22 (by decide) (fun hqz => absurd hqz (by decide)) (fun _ => ?_)
  refine r_aload_n dX5_add_25 rfl ?_
  refine r_getR dX5_add_26 fl_X5_9 (ly_3 hE) rfl ?_
  refine r_aload_n dX5_add_29 rfl ?_
  refine r_getI dX5_add_30 fl_X5_25 (ly_3 hE) rfl ?_
  refine r_rw (y := nI T) h4 ?_
  refine r_sipush (v := 160) dX5_add_33 rfl ?_
  refine r_imul dX5_add_36 ?_
  refine r_aload_n dX5_add_37 rfl ?_
  refine r_getI dX5_add_38 fl_X5_21 (ly_3 hE) rfl ?_
  refine r_rw (y := nI w) h3 ?_
  refine r_iadd dX5_add_41 ?_
  refine r_rw (y := nI (160 * T + w)) (show nI T * nI 160 + nI w = _ by rw [pk_mul, nI_add]; congr 1; omega) ?_
  refine r_iload_n dX5_add_42 rfl ?_
  refine r_iastN dX5_add_43 (ly_22 hE) (by omega) (by decide) ?_
  refine r_aload_n dX5_add_44 rfl ?_
  refine r_dup dX5_add_45 rfl ?_
  refine r_getI dX5_add_46 fl_X5_21 (ly_3 hE) rfl ?_
  refine r_rw (y := nI w) (by rw [s2_ne (by decide)]; exact h3) ?_
  refine r_iconst (v := 1) dX5_add_49 rfl ?_
  refine r_iadd dX5_add_50 ?_
  refine r_rw (y := nI (w + 1)) (nI_1 w) ?_
  refine r_putI dX5_add_51 fl_X5_21 fp_5_3 (ly_3 hE) rfl rfl rfl ?_
  refine r_return dX5_add_54 rfl ?_
  exact h
set_option maxRecDepth 100000 in
set_option maxHeartbeats 1000000 in
theorem add_full {x : Int32} (hE : hC E) (hT : T < 6) (h4 : A 3 4 = nI T) (h3 : A 3 3 = nI 160) (h : Ph none A L) : qC E mm_X5_add (d + 1) [.ref 3, .int x] A L Ph := by
  refine qC.enter (by decide) (Nat.le_of_ble_eq_true rfl) ?_
  refine r_aload_n dX5_add_0 rfl ?_
  refine r_getI dX5_add_1 fl_X5_25 (ly_3 hE) rfl ?_
  refine r_rw (y := nI T) h4 ?_
  refine r_bipush (v := 6) dX5_add_4 rfl ?_
  refine r_callN2 dX5_add_6 lk_X5_28 (Nat.le_of_ble_eq_true rfl) (win_t (lim := 6) rfl (by decide) hT ?_)
  refine r_if_eq (tgt := 54) dX5_add_9 (by decide) (fun hqz => absurd hqz (by decide)) (fun _ => ?_)
  refine r_aload_n dX5_add_12 rfl ?_
  refine r_getI dX5_add_13 fl_X5_21 (ly_3 hE) rfl ?_
  refine r_rw (y := nI 160) h3 ?_
  refine r_sipush (v := 160) dX5_add_16 rfl ?_
  refine r_callN2 dX5_add_19 lk_X5_28 (Nat.le_of_ble_eq_true rfl) (win_f 160 rfl (by decide) (fun j hj e => absurd ((nI_eq (by decide) (by omega)).mp e) (by omega)) ?_)
  refine r_if_eq (tgt := 54) dX5_add_22 (by decide) (fun _ => ?_) (fun hqz => absurd (by decide) hqz)
  refine r_return dX5_add_54 rfl ?_
  exact h
theorem add_c {x y : Int32} (hE : hC E) (hT : T < 6) (hs : CS A f z T i out) (hl : out.length < 160) (hx : x = enc y) (h : ∀ A', CF T A A' → CS A' f z T i (out ++ [y]) → Ph none A' L) : qC E mm_X5_add (d + 1) [.ref 3, .int x] A L Ph := sp_add hE hT hs.2.2.1 hs.2.2.2.1 hl (h _ addA_cf (hs.add hx))
theorem add_x {x : Int32} (hE : hC E) (hT : T < 6) (hs : CX A f z T i) (h : ∀ A', CF T A A' → CX A' f z T i → Ph none A' L) : qC E mm_X5_add (d + 1) [.ref 3, .int x] A L Ph := by
  obtain ⟨w, hw, e⟩ := hs.2.2.2
  rcases Nat.eq_or_lt_of_le hw with q | q
  · exact add_full hE hT hs.2.2.1 (by rw [e, q]) (h A CF.rf hs)
  · exact sp_add hE hT hs.2.2.1 e q (h _ addA_cf (hs.add q))
set_option maxRecDepth 100000 in
set_option maxHeartbeats 1000000 in
theorem refuse_c (hE : hC E) (hs : CS A f z T i out) (hl : out.length ≤ 160) (h : ∀ A', CF T A A' → CX A' f z T i → Ph none A' L) : qC E mm_X1_refuse d [.ref 4] A L Ph := by
  have h7 := hs.2.1
  have h4 := hs.1.2.2.2.1
  refine qC.enter (by decide) (Nat.le_of_ble_eq_true rfl) ?_
  refine r_aload_n dX1_refuse_0 rfl ?_
  refine r_getI dX1_refuse_1 fl_X1_30 (ly_4 hE) rfl ?_
  refine r_rw (y := -1) h7 ?_
  refine r_iconst (v := (-1)) dX1_refuse_4 rfl ?_
  refine r_icmp_ne (tgt := 16) dX1_refuse_5 (by decide) (fun hqz => absurd (by decide) hqz) (fun _ => ?_)
  refine r_aload_n dX1_refuse_8 rfl ?_
  refine r_aload_n dX1_refuse_9 rfl ?_
  refine r_getI dX1_refuse_10 fl_X1_58 (ly_4 hE) rfl ?_
  refine r_rw (y := nI (tS f z i)) h4 ?_
  refine r_putI dX1_refuse_13 fl_X1_30 fp_1_7 (ly_4 hE) rfl rfl rfl ?_
  refine r_aload_n dX1_refuse_16 rfl ?_
  refine r_sipush (v := 302) dX1_refuse_17 rfl ?_
  refine r_putI dX1_refuse_20 fl_X1_52 fp_1_5 (ly_4 hE) rfl rfl rfl ?_
  refine r_return dX1_refuse_23 rfl ?_
  have f1 : F4 [5, 7] A (s2 (s2 A 4 7 (nI (tS f z i))) 4 5 302) := (F4.st (by decide)).tr (F4.st (by decide))
  exact h _ (f1.cf (by decide)) ⟨by rw [s2_nj (fun _ => by decide), s2_same], s2_same, by rw [f1.1 3 (by decide)]; exact hs.2.2.1, _, hl, by rw [f1.1 3 (by decide)]; exact hs.2.2.2.1⟩
set_option maxRecDepth 100000 in
set_option maxHeartbeats 1000000 in
theorem refuse_x (hE : hC E) (hz : z ≤ 160) (hs : CX A f z T i) (h : ∀ A', CF T A A' → CX A' f z T i → Ph none A' L) : qC E mm_X1_refuse d [.ref 4] A L Ph := by
  have h7 := hs.1
  have ht := (tE_le (f := f) hz i).2.2
  refine qC.enter (by decide) (Nat.le_of_ble_eq_true rfl) ?_
  refine r_aload_n dX1_refuse_0 rfl ?_
  refine r_getI dX1_refuse_1 fl_X1_30 (ly_4 hE) rfl ?_
  refine r_rw (y := nI (tS f z i)) h7 ?_
  refine r_iconst (v := (-1)) dX1_refuse_4 rfl ?_
  refine r_icmp_ne (tgt := 16) dX1_refuse_5 (by decide) (fun _ => ?_) (fun hqz => absurd hqz (nI_nm1 (by omega)))
  refine r_aload_n dX1_refuse_16 rfl ?_
  refine r_sipush (v := 302) dX1_refuse_17 rfl ?_
  refine r_putI dX1_refuse_20 fl_X1_52 fp_1_5 (ly_4 hE) rfl rfl rfl ?_
  refine r_return dX1_refuse_23 rfl ?_
  have f1 : F4 [5] A (s2 A 4 5 302) := F4.st (by decide)
  exact h _ (f1.cf (by decide)) ⟨by rw [s2_nj (fun _ => by decide)]; exact h7, s2_same, by rw [f1.1 3 (by decide)]; exact hs.2.2.1, by rw [f1.1 3 (by decide)]; exact hs.2.2.2⟩
set_option maxRecDepth 100000 in
set_option maxHeartbeats 1000000 in
theorem need_c (hE : hC E) (hz : z ≤ 160) (hf : ∀ j, j < z → ∃ b, b < 256 ∧ f j = nI b) {v : Int32} (hs : CS A f z T i out) (hv : tk f z i = v) (h : ∀ A', CF T A A' → CS A' f z T (i + 1) out → Ph none A' L) : qC E mm_X1_need (d + 6) [.ref 4, .int v] A L Ph := by
  refine qC.enter (by decide) (Nat.le_of_ble_eq_true rfl) ?_
  refine r_aload_n dX1_need_0 rfl ?_
  refine r_getI dX1_need_1 fl_X1_52 (ly_4 hE) rfl ?_
  refine r_rw (y := v) (hs.1.2.2.2.2.1.trans hv) ?_
  refine r_iload_n dX1_need_4 rfl ?_
  refine r_icmp_ne (tgt := 15) dX1_need_5 (by decide) (fun hqz => absurd rfl hqz) (fun _ => ?_)
  refine r_aload_n dX1_need_8 rfl ?_
  refine r_callV0 dX1_need_9 lk_X1_38 (ly_4 hE) rfl (Nat.le_of_ble_eq_true rfl) (sp_advance hE hz hf hs.1.1 hs.1.2.1 hs.1.2.2.1 (fun A1 f1 c1 => ?_))
  refine r_goto (tgt := 19) dX1_need_12 (by decide) ?_
  refine r_return dX1_need_19 rfl ?_
  exact h A1 (f1.cf (by decide)) (hs.adv f1 c1)
set_option maxRecDepth 100000 in
set_option maxHeartbeats 1000000 in
theorem need_n (hE : hC E) {v : Int32} (hs : CS A f z T i out) (hl : out.length ≤ 160) (hv : ¬ tk f z i = v) (h : ∀ A', CF T A A' → CX A' f z T i → Ph none A' L) : qC E mm_X1_need (d + 6) [.ref 4, .int v] A L Ph := by
  refine qC.enter (by decide) (Nat.le_of_ble_eq_true rfl) ?_
  refine r_aload_n dX1_need_0 rfl ?_
  refine r_getI dX1_need_1 fl_X1_52 (ly_4 hE) rfl ?_
  refine r_rw (y := tk f z i) hs.1.2.2.2.2.1 ?_
  refine r_iload_n dX1_need_4 rfl ?_
  refine r_icmp_ne (tgt := 15) dX1_need_5 (by decide) (fun _ => ?_) (fun hqz => absurd hqz hv)
  refine r_aload_n dX1_need_15 rfl ?_
  refine r_callV0 dX1_need_16 lk_X1_55 (ly_4 hE) rfl (Nat.le_of_ble_eq_true rfl) (refuse_c hE hs hl (fun A1 f1 c1 => ?_))
  refine r_return dX1_need_19 rfl ?_
  exact h A1 f1 c1
set_option maxRecDepth 100000 in
set_option maxHeartbeats 1000000 in
theorem need_x (hE : hC E) (hz : z ≤ 160) {v : Int32} (hs : CX A f z T i) (hv : ¬ 302 = v) (h : ∀ A', CF T A A' → CX A' f z T i → Ph none A' L) : qC E mm_X1_need (d + 6) [.ref 4, .int v] A L Ph := by
  refine qC.enter (by decide) (Nat.le_of_ble_eq_true rfl) ?_
  refine r_aload_n dX1_need_0 rfl ?_
  refine r_getI dX1_need_1 fl_X1_52 (ly_4 hE) rfl ?_
  refine r_rw (y := 302) hs.2.1 ?_
  refine r_iload_n dX1_need_4 rfl ?_
  refine r_icmp_ne (tgt := 15) dX1_need_5 (by decide) (fun _ => ?_) (fun hqz => absurd hqz hv)
  refine r_aload_n dX1_need_15 rfl ?_
  refine r_callV0 dX1_need_16 lk_X1_55 (ly_4 hE) rfl (Nat.le_of_ble_eq_true rfl) (refuse_x hE hz hs (fun A1 f1 c1 => ?_))
  refine r_return dX1_need_19 rfl ?_
  exact h A1 f1 c1
set_option maxRecDepth 100000 in
set_option maxHeartbeats 1000000 in
theorem one_x (hE : hC E) (hz : z ≤ 160) (hT : T < 6) (hs : CX A f z T i) (h : ∀ A', CF T A A' → CX A' f z T i → Ph none A' L) {v : Int32} : qC E mm_X1_one (d + 1) [.ref 4, .int v] A L Ph := by
  refine qC.enter (by decide) (Nat.le_of_ble_eq_true rfl) ?_
  refine r_aload_n dX1_one_0 rfl ?_
  refine r_getI dX1_one_1 fl_X1_52 (ly_4 hE) rfl ?_
  refine r_rw (y := 302) hs.2.1 ?_
  refine r_sipush (v := 300) dX1_one_4 rfl ?_
  refine r_icmp_ne (tgt := 28) dX1_one_7 (by decide) (fun _ => ?_) (fun hqz => absurd hqz (by decide))
  refine r_aload_n dX1_one_28 rfl ?_
  refine r_getI dX1_one_29 fl_X1_52 (ly_4 hE) rfl ?_
  refine r_rw (y := 302) hs.2.1 ?_
  refine r_bipush (v := 6) dX1_one_32 rfl ?_
  refine r_callN2 dX1_one_34 lk_X1_23 (Nat.le_of_ble_eq_true rfl) (win_f 6 rfl (by decide) (fun j hj e => absurd ((nI_eq (a := 302) (by decide) (by omega)).mp e) (by omega)) ?_)
  refine r_if_eq (tgt := 60) dX1_one_37 (by decide) (fun _ => ?_) (fun hqz => absurd (by decide) hqz)
  refine r_aload_n dX1_one_60 rfl ?_
  refine r_getI dX1_one_61 fl_X1_52 (ly_4 hE) rfl ?_
  refine r_rw (y := 302) hs.2.1 ?_
  refine r_bipush (v := 45) dX1_one_64 rfl ?_
  refine r_icmp_ne (tgt := 97) dX1_one_66 (by decide) (fun _ => ?_) (fun hqz => absurd hqz (by decide))
  refine r_aload_n dX1_one_97 rfl ?_
  refine r_getI dX1_one_98 fl_X1_52 (ly_4 hE) rfl ?_
  refine r_rw (y := 302) hs.2.1 ?_
  refine r_bipush (v := 40) dX1_one_101 rfl ?_
  refine r_icmp_ne (tgt := 132) dX1_one_103 (by decide) (fun _ => ?_) (fun hqz => absurd hqz (by decide))
  refine r_aload_n dX1_one_132 rfl ?_
  refine r_callV0 dX1_one_133 lk_X1_55 (ly_4 hE) rfl (Nat.le_of_ble_eq_true rfl) (refuse_x hE hz hs (fun A1 f1 c1 => ?_))
  refine r_return dX1_one_136 rfl ?_
  exact h A1 f1 c1
set_option maxRecDepth 100000 in
set_option maxHeartbeats 1000000 in
theorem link3_x (hE : hC E) (hz : z ≤ 160) (hT : T < 6) (hs : CX A f z T i) (h : ∀ A', CF T A A' → CX A' f z T i → Ph none A' L) {v : Int32} : qC E mm_X1_link (d + 2) [.ref 4, .int 3, .int v] A L Ph := by
  refine qC.enter (by decide) (Nat.le_of_ble_eq_true rfl) ?_
  refine r_iload_n dX1_link_0 rfl ?_
  refine r_iconst (v := 3) dX1_link_1 rfl ?_
  refine r_icmp_ne (tgt := 13) dX1_link_2 (by decide) (fun hqz => absurd (by decide) hqz) (fun _ => ?_)
  refine r_aload_n dX1_link_5 rfl ?_
  refine r_iload_n dX1_link_6 rfl ?_
  refine r_callV1 dX1_link_7 lk_X1_75 (ly_4 hE) rfl (Nat.le_of_ble_eq_true rfl) (one_x hE hz hT hs (fun A1 f1 c1 => ?_))
  refine r_goto (tgt := 34) dX1_link_10 (by decide) ?_
  refine r_return dX1_link_34 rfl ?_
  exact h A1 f1 c1
set_option maxRecDepth 100000 in
set_option maxHeartbeats 1000000 in
theorem loop3_x (hE : hC E) (hz : z ≤ 160) (hT : T < 6) (hs : CX A f z T i) (h : ∀ A', CF T A A' → CX A' f z T i → Ph none A' L) {v : Int32} {q : Nat} (hq : q ≤ 160) : qG E mm_X1_chain (d + 1) 8 [(3, .int (nI q)), (0, .ref 4), (1, .int 3), (2, .int v)] [] A L Ph := by
  rcases Nat.eq_or_lt_of_le hq with e | hq
  · subst e
    refine r_iload_n dX1_chain_8 rfl ?_
    refine r_sipush (v := 160) dX1_chain_9 rfl ?_
    refine r_icmp_ge (tgt := 57) dX1_chain_12 (by decide) (fun _ => ?_) (fun hqz => absurd (nI_le (Nat.le_refl 160) (by decide)) hqz)
    refine r_return dX1_chain_57 rfl ?_
    exact h A CF.rf hs
  · refine r_iload_n dX1_chain_8 rfl ?_
    refine r_sipush (v := 160) dX1_chain_9 rfl ?_
    refine r_icmp_ge (tgt := 57) dX1_chain_12 (by decide) (fun hqz => absurd hqz (nI_ge hq (by decide))) (fun _ => ?_)
    refine r_aload_n dX1_chain_15 rfl ?_
    refine r_iload_n dX1_chain_16 rfl ?_
    refine r_callV1 dX1_chain_17 lk_X1_64 (ly_4 hE) rfl (Nat.le_of_ble_eq_true rfl) (sp_joins3 hE hs.2.1 (fun y => absurd y (by decide)) (fun _ => ?_))
    refine r_if_eq (tgt := 57) dX1_chain_20 (by decide) (fun _ => ?_) (fun hqz => absurd (by decide) hqz)
    refine r_return dX1_chain_57 rfl ?_
    exact h A CF.rf hs
set_option maxRecDepth 100000 in
set_option maxHeartbeats 1000000 in
theorem chain3_x (hE : hC E) (hz : z ≤ 160) (hT : T < 6) (hs : CX A f z T i) (h : ∀ A', CF T A A' → CX A' f z T i → Ph none A' L) {v : Int32} : qC E mm_X1_chain (d + 3) [.ref 4, .int 3, .int v] A L Ph := by
  refine qC.enter (by decide) (Nat.le_of_ble_eq_true rfl) ?_
  refine r_aload_n dX1_chain_0 rfl ?_
  refine r_iload_n dX1_chain_1 rfl ?_
  refine r_iload_n dX1_chain_2 rfl ?_
  refine r_callV2 dX1_chain_3 lk_X1_61 (ly_4 hE) rfl (Nat.le_of_ble_eq_true rfl) (link3_x hE hz hT hs (fun A1 f1 c1 => ?_))
  refine r_iconst (v := 0) dX1_chain_6 rfl ?_
  refine r_istore_n (loc' := [(3, .int 0), (0, .ref 4), (1, .int 3), (2, .int v)]) dX1_chain_7 (by decide) rfl ?_
  refine qG.pick [0, 1, 2, 3] rfl ?_
  exact loop3_x hE hz hT c1 (fun A2 f2 c2 => h A2 (f1.tr f2) c2) (Nat.zero_le _)
set_option maxRecDepth 100000 in
set_option maxHeartbeats 1000000 in
theorem link2_x (hE : hC E) (hz : z ≤ 160) (hT : T < 6) (hs : CX A f z T i) (h : ∀ A', CF T A A' → CX A' f z T i → Ph none A' L) {v : Int32} : qC E mm_X1_link (d + 4) [.ref 4, .int 2, .int v] A L Ph := by
  refine qC.enter (by decide) (Nat.le_of_ble_eq_true rfl) ?_
  refine r_iload_n dX1_link_0 rfl ?_
  refine r_iconst (v := 3) dX1_link_1 rfl ?_
  refine r_icmp_ne (tgt := 13) dX1_link_2 (by decide) (fun _ => ?_) (fun hqz => absurd hqz (by decide))
  refine r_iload_n dX1_link_13 rfl ?_
  refine r_iconst (v := 1) dX1_link_14 rfl ?_
  refine r_icmp_ne (tgt := 26) dX1_link_15 (by decide) (fun _ => ?_) (fun hqz => absurd hqz (by decide))
  refine r_aload_n dX1_link_26 rfl ?_
  refine r_iload_n dX1_link_27 rfl ?_
  refine r_iconst (v := 1) dX1_link_28 rfl ?_
  refine r_iadd dX1_link_29 ?_
  refine r_rw (y := 3) (by decide) ?_
  refine r_iload_n dX1_link_30 rfl ?_
  refine r_callV2 dX1_link_31 lk_X1_45 (ly_4 hE) rfl (Nat.le_of_ble_eq_true rfl) (chain3_x hE hz hT hs (fun A1 f1 c1 => ?_))
  refine r_return dX1_link_34 rfl ?_
  exact h A1 f1 c1
set_option maxRecDepth 100000 in
set_option maxHeartbeats 1000000 in
theorem loop2_x (hE : hC E) (hz : z ≤ 160) (hT : T < 6) (hs : CX A f z T i) (h : ∀ A', CF T A A' → CX A' f z T i → Ph none A' L) {v : Int32} {q : Nat} (hq : q ≤ 160) : qG E mm_X1_chain (d + 1) 8 [(3, .int (nI q)), (0, .ref 4), (1, .int 2), (2, .int v)] [] A L Ph := by
  rcases Nat.eq_or_lt_of_le hq with e | hq
  · subst e
    refine r_iload_n dX1_chain_8 rfl ?_
    refine r_sipush (v := 160) dX1_chain_9 rfl ?_
    refine r_icmp_ge (tgt := 57) dX1_chain_12 (by decide) (fun _ => ?_) (fun hqz => absurd (nI_le (Nat.le_refl 160) (by decide)) hqz)
    refine r_return dX1_chain_57 rfl ?_
    exact h A CF.rf hs
  · refine r_iload_n dX1_chain_8 rfl ?_
    refine r_sipush (v := 160) dX1_chain_9 rfl ?_
    refine r_icmp_ge (tgt := 57) dX1_chain_12 (by decide) (fun hqz => absurd hqz (nI_ge hq (by decide))) (fun _ => ?_)
    refine r_aload_n dX1_chain_15 rfl ?_
    refine r_iload_n dX1_chain_16 rfl ?_
    refine r_callV1 dX1_chain_17 lk_X1_64 (ly_4 hE) rfl (Nat.le_of_ble_eq_true rfl) (sp_joins2 hE hs.2.1 (fun y => absurd y (by decide)) (fun _ => ?_))
    refine r_if_eq (tgt := 57) dX1_chain_20 (by decide) (fun _ => ?_) (fun hqz => absurd (by decide) hqz)
    refine r_return dX1_chain_57 rfl ?_
    exact h A CF.rf hs
set_option maxRecDepth 100000 in
set_option maxHeartbeats 1000000 in
theorem chain2_x (hE : hC E) (hz : z ≤ 160) (hT : T < 6) (hs : CX A f z T i) (h : ∀ A', CF T A A' → CX A' f z T i → Ph none A' L) {v : Int32} : qC E mm_X1_chain (d + 5) [.ref 4, .int 2, .int v] A L Ph := by
  refine qC.enter (by decide) (Nat.le_of_ble_eq_true rfl) ?_
  refine r_aload_n dX1_chain_0 rfl ?_
  refine r_iload_n dX1_chain_1 rfl ?_
  refine r_iload_n dX1_chain_2 rfl ?_
  refine r_callV2 dX1_chain_3 lk_X1_61 (ly_4 hE) rfl (Nat.le_of_ble_eq_true rfl) (link2_x hE hz hT hs (fun A1 f1 c1 => ?_))
  refine r_iconst (v := 0) dX1_chain_6 rfl ?_
  refine r_istore_n (loc' := [(3, .int 0), (0, .ref 4), (1, .int 2), (2, .int v)]) dX1_chain_7 (by decide) rfl ?_
  refine qG.pick [0, 1, 2, 3] rfl ?_
  exact loop2_x hE hz hT c1 (fun A2 f2 c2 => h A2 (f1.tr f2) c2) (Nat.zero_le _)
set_option maxRecDepth 100000 in
set_option maxHeartbeats 1000000 in
theorem denial_x (hE : hC E) (hz : z ≤ 160) (hT : T < 6) (hs : CX A f z T i) (h : ∀ A', CF T A A' → CX A' f z T i → Ph none A' L) {v : Int32} : qC E mm_X1_denial (d + 6) [.ref 4, .int v] A L Ph := by
  refine qC.enter (by decide) (Nat.le_of_ble_eq_true rfl) ?_
  refine r_aload_n dX1_denial_0 rfl ?_
  refine r_getI dX1_denial_1 fl_X1_52 (ly_4 hE) rfl ?_
  refine r_rw (y := 302) hs.2.1 ?_
  refine r_bipush (v := 11) dX1_denial_4 rfl ?_
  refine r_icmp_ne (tgt := 35) dX1_denial_6 (by decide) (fun _ => ?_) (fun hqz => absurd hqz (by decide))
  refine r_aload_n dX1_denial_35 rfl ?_
  refine r_iconst (v := 2) dX1_denial_36 rfl ?_
  refine r_iload_n dX1_denial_37 rfl ?_
  refine r_callV2 dX1_denial_38 lk_X1_45 (ly_4 hE) rfl (Nat.le_of_ble_eq_true rfl) (chain2_x hE hz hT hs (fun A1 f1 c1 => ?_))
  refine r_aload_n dX1_denial_41 rfl ?_
  refine r_getI dX1_denial_42 fl_X1_52 (ly_4 hE) rfl ?_
  refine r_rw (y := 302) c1.2.1 ?_
  refine r_bipush (v := 60) dX1_denial_45 rfl ?_
  refine r_icmp_eq (tgt := 59) dX1_denial_47 (by decide) (fun hqz => absurd hqz (by decide)) (fun _ => ?_)
  refine r_aload_n dX1_denial_50 rfl ?_
  refine r_getI dX1_denial_51 fl_X1_52 (ly_4 hE) rfl ?_
  refine r_rw (y := 302) c1.2.1 ?_
  refine r_bipush (v := 61) dX1_denial_54 rfl ?_
  refine r_icmp_ne (tgt := 85) dX1_denial_56 (by decide) (fun _ => ?_) (fun hqz => absurd hqz (by decide))
  refine r_return dX1_denial_85 rfl ?_
  exact h A1 f1 c1
set_option maxRecDepth 100000 in
set_option maxHeartbeats 1000000 in
theorem link1_x (hE : hC E) (hz : z ≤ 160) (hT : T < 6) (hs : CX A f z T i) (h : ∀ A', CF T A A' → CX A' f z T i → Ph none A' L) {v : Int32} : qC E mm_X1_link (d + 7) [.ref 4, .int 1, .int v] A L Ph := by
  refine qC.enter (by decide) (Nat.le_of_ble_eq_true rfl) ?_
  refine r_iload_n dX1_link_0 rfl ?_
  refine r_iconst (v := 3) dX1_link_1 rfl ?_
  refine r_icmp_ne (tgt := 13) dX1_link_2 (by decide) (fun _ => ?_) (fun hqz => absurd hqz (by decide))
  refine r_iload_n dX1_link_13 rfl ?_
  refine r_iconst (v := 1) dX1_link_14 rfl ?_
  refine r_icmp_ne (tgt := 26) dX1_link_15 (by decide) (fun hqz => absurd (by decide) hqz) (fun _ => ?_)
  refine r_aload_n dX1_link_18 rfl ?_
  refine r_iload_n dX1_link_19 rfl ?_
  refine r_callV1 dX1_link_20 lk_X1_78 (ly_4 hE) rfl (Nat.le_of_ble_eq_true rfl) (denial_x hE hz hT hs (fun A1 f1 c1 => ?_))
  refine r_goto (tgt := 34) dX1_link_23 (by decide) ?_
  refine r_return dX1_link_34 rfl ?_
  exact h A1 f1 c1
set_option maxRecDepth 100000 in
set_option maxHeartbeats 1000000 in
theorem loop1_x (hE : hC E) (hz : z ≤ 160) (hT : T < 6) (hs : CX A f z T i) (h : ∀ A', CF T A A' → CX A' f z T i → Ph none A' L) {v : Int32} {q : Nat} (hq : q ≤ 160) : qG E mm_X1_chain (d + 1) 8 [(3, .int (nI q)), (0, .ref 4), (1, .int 1), (2, .int v)] [] A L Ph := by
  rcases Nat.eq_or_lt_of_le hq with e | hq
  · subst e
    refine r_iload_n dX1_chain_8 rfl ?_
    refine r_sipush (v := 160) dX1_chain_9 rfl ?_
    refine r_icmp_ge (tgt := 57) dX1_chain_12 (by decide) (fun _ => ?_) (fun hqz => absurd (nI_le (Nat.le_refl 160) (by decide)) hqz)
    refine r_return dX1_chain_57 rfl ?_
    exact h A CF.rf hs
  · refine r_iload_n dX1_chain_8 rfl ?_
    refine r_sipush (v := 160) dX1_chain_9 rfl ?_
    refine r_icmp_ge (tgt := 57) dX1_chain_12 (by decide) (fun hqz => absurd hqz (nI_ge hq (by decide))) (fun _ => ?_)
    refine r_aload_n dX1_chain_15 rfl ?_
    refine r_iload_n dX1_chain_16 rfl ?_
    refine r_callV1 dX1_chain_17 lk_X1_64 (ly_4 hE) rfl (Nat.le_of_ble_eq_true rfl) (sp_joins1 hE hs.2.1 (fun y => absurd y (by decide)) (fun _ => ?_))
    refine r_if_eq (tgt := 57) dX1_chain_20 (by decide) (fun _ => ?_) (fun hqz => absurd (by decide) hqz)
    refine r_return dX1_chain_57 rfl ?_
    exact h A CF.rf hs
set_option maxRecDepth 100000 in
set_option maxHeartbeats 1000000 in
theorem chain1_x (hE : hC E) (hz : z ≤ 160) (hT : T < 6) (hs : CX A f z T i) (h : ∀ A', CF T A A' → CX A' f z T i → Ph none A' L) {v : Int32} : qC E mm_X1_chain (d + 8) [.ref 4, .int 1, .int v] A L Ph := by
  refine qC.enter (by decide) (Nat.le_of_ble_eq_true rfl) ?_
  refine r_aload_n dX1_chain_0 rfl ?_
  refine r_iload_n dX1_chain_1 rfl ?_
  refine r_iload_n dX1_chain_2 rfl ?_
  refine r_callV2 dX1_chain_3 lk_X1_61 (ly_4 hE) rfl (Nat.le_of_ble_eq_true rfl) (link1_x hE hz hT hs (fun A1 f1 c1 => ?_))
  refine r_iconst (v := 0) dX1_chain_6 rfl ?_
  refine r_istore_n (loc' := [(3, .int 0), (0, .ref 4), (1, .int 1), (2, .int v)]) dX1_chain_7 (by decide) rfl ?_
  refine qG.pick [0, 1, 2, 3] rfl ?_
  exact loop1_x hE hz hT c1 (fun A2 f2 c2 => h A2 (f1.tr f2) c2) (Nat.zero_le _)
set_option maxRecDepth 100000 in
set_option maxHeartbeats 1000000 in
theorem link0_x (hE : hC E) (hz : z ≤ 160) (hT : T < 6) (hs : CX A f z T i) (h : ∀ A', CF T A A' → CX A' f z T i → Ph none A' L) {v : Int32} : qC E mm_X1_link (d + 9) [.ref 4, .int 0, .int v] A L Ph := by
  refine qC.enter (by decide) (Nat.le_of_ble_eq_true rfl) ?_
  refine r_iload_n dX1_link_0 rfl ?_
  refine r_iconst (v := 3) dX1_link_1 rfl ?_
  refine r_icmp_ne (tgt := 13) dX1_link_2 (by decide) (fun _ => ?_) (fun hqz => absurd hqz (by decide))
  refine r_iload_n dX1_link_13 rfl ?_
  refine r_iconst (v := 1) dX1_link_14 rfl ?_
  refine r_icmp_ne (tgt := 26) dX1_link_15 (by decide) (fun _ => ?_) (fun hqz => absurd hqz (by decide))
  refine r_aload_n dX1_link_26 rfl ?_
  refine r_iload_n dX1_link_27 rfl ?_
  refine r_iconst (v := 1) dX1_link_28 rfl ?_
  refine r_iadd dX1_link_29 ?_
  refine r_rw (y := 1) (by decide) ?_
  refine r_iload_n dX1_link_30 rfl ?_
  refine r_callV2 dX1_link_31 lk_X1_45 (ly_4 hE) rfl (Nat.le_of_ble_eq_true rfl) (chain1_x hE hz hT hs (fun A1 f1 c1 => ?_))
  refine r_return dX1_link_34 rfl ?_
  exact h A1 f1 c1
set_option maxRecDepth 100000 in
set_option maxHeartbeats 1000000 in
theorem loop0_x (hE : hC E) (hz : z ≤ 160) (hT : T < 6) (hs : CX A f z T i) (h : ∀ A', CF T A A' → CX A' f z T i → Ph none A' L) {v : Int32} {q : Nat} (hq : q ≤ 160) : qG E mm_X1_chain (d + 1) 8 [(3, .int (nI q)), (0, .ref 4), (1, .int 0), (2, .int v)] [] A L Ph := by
  rcases Nat.eq_or_lt_of_le hq with e | hq
  · subst e
    refine r_iload_n dX1_chain_8 rfl ?_
    refine r_sipush (v := 160) dX1_chain_9 rfl ?_
    refine r_icmp_ge (tgt := 57) dX1_chain_12 (by decide) (fun _ => ?_) (fun hqz => absurd (nI_le (Nat.le_refl 160) (by decide)) hqz)
    refine r_return dX1_chain_57 rfl ?_
    exact h A CF.rf hs
  · refine r_iload_n dX1_chain_8 rfl ?_
    refine r_sipush (v := 160) dX1_chain_9 rfl ?_
    refine r_icmp_ge (tgt := 57) dX1_chain_12 (by decide) (fun hqz => absurd hqz (nI_ge hq (by decide))) (fun _ => ?_)
    refine r_aload_n dX1_chain_15 rfl ?_
    refine r_iload_n dX1_chain_16 rfl ?_
    refine r_callV1 dX1_chain_17 lk_X1_64 (ly_4 hE) rfl (Nat.le_of_ble_eq_true rfl) (sp_joins0 hE hs.2.1 (fun y => absurd y (by decide)) (fun _ => ?_))
    refine r_if_eq (tgt := 57) dX1_chain_20 (by decide) (fun _ => ?_) (fun hqz => absurd (by decide) hqz)
    refine r_return dX1_chain_57 rfl ?_
    exact h A CF.rf hs
set_option maxRecDepth 100000 in
set_option maxHeartbeats 1000000 in
theorem chain0_x (hE : hC E) (hz : z ≤ 160) (hT : T < 6) (hs : CX A f z T i) (h : ∀ A', CF T A A' → CX A' f z T i → Ph none A' L) {v : Int32} : qC E mm_X1_chain (d + 10) [.ref 4, .int 0, .int v] A L Ph := by
  refine qC.enter (by decide) (Nat.le_of_ble_eq_true rfl) ?_
  refine r_aload_n dX1_chain_0 rfl ?_
  refine r_iload_n dX1_chain_1 rfl ?_
  refine r_iload_n dX1_chain_2 rfl ?_
  refine r_callV2 dX1_chain_3 lk_X1_61 (ly_4 hE) rfl (Nat.le_of_ble_eq_true rfl) (link0_x hE hz hT hs (fun A1 f1 c1 => ?_))
  refine r_iconst (v := 0) dX1_chain_6 rfl ?_
  refine r_istore_n (loc' := [(3, .int 0), (0, .ref 4), (1, .int 0), (2, .int v)]) dX1_chain_7 (by decide) rfl ?_
  refine qG.pick [0, 1, 2, 3] rfl ?_
  exact loop0_x hE hz hT c1 (fun A2 f2 c2 => h A2 (f1.tr f2) c2) (Nat.zero_le _)
end CPAR
