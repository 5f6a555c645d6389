/-! isE, step by step -/
theorem seF_len {r : Nat} : ∀ (W out : List Int32), (seF r W out).1.length + (seF r W out).2.length = W.length + out.length := by
  intro W
  induction W with
  | nil => intro out; rfl
  | cons c W ih =>
    intro out
    rw [seF]
    split
    · rw [ih, List.length_append, List.length_singleton, List.length_cons]; omega
    · rfl
theorem seF_la {r : Nat} {W out : List Int32} (h : la W < r) : seF r W out = (W, out) := by
  cases W with
  | nil => rfl
  | cons c W =>
    have h : rkN c < r := h
    rw [seF, if_neg (fun y => by omega)]
theorem seF_all {r : Nat} (hr : 0 < r) : ∀ {P W out : List Int32}, (∀ x, x ∈ P → r ≤ rkN x) → la W < r → seF r (P ++ W) out = (W, out ++ P)
  | [], W, out, _, h => by rw [List.nil_append, List.append_nil]; exact seF_la h
  | c :: P, W, out, hP, h => by
    have hc := hP c List.mem_cons_self
    rw [List.cons_append, seF, if_pos ⟨by omega, hc⟩, seF_all hr (fun x hx => hP x (List.mem_cons_of_mem _ hx)) h, List.append_assoc]
    rfl
theorem seF_0 {r : Nat} (hr : r ≤ 1) : ∀ (W out : List Int32), (seF r W out).1 = [] ∨ ∃ V, (seF r W out).1 = 0 :: V := by
  intro W
  induction W with
  | nil => intro out; exact Or.inl rfl
  | cons c W ih =>
    intro out
    rw [seF]
    by_cases h : 0 < rkN c ∧ r ≤ rkN c
    · rw [if_pos h]; exact ih _
    · rw [if_neg h]
      have h0 : rkN c = 0 := by omega
      have hc : c = 0 := by
        unfold rkN at h0
        split at h0
        · assumption
        · exfalso
          split at h0
          · omega
          · split at h0
            · omega
            · split at h0
              · omega
              · split at h0
                · omega
                · split at h0
                  · omega
                  · split at h0 <;> omega
      rw [hc]
      exact Or.inr ⟨W, rfl⟩
theorem cn0 {V : List Int32} : cn (0 :: V) = cn V + 1 := by rw [cn, if_pos (Or.inl rfl)]
section ISE
variable {E : mE} {d : Nat} {A : mA} {L : mJ} {Ph : mP} {f : Nat → Int32} {z T i : Nat} {W out : List Int32}
abbrev BQ (E : mE) (e : Nat) (A : mA) (L : mJ) (Ph : mP) : Prop := qG E mm_X7_isE e 5 [(0, .ref 38)] [] A L Ph ∧ qG E mm_X7_isE e 19 [(0, .ref 38)] [] A L Ph
set_option maxRecDepth 100000 in
set_option maxHeartbeats 1000000 in
theorem be_name (hE : hM E) (hz : z ≤ 160) (hf : ∀ j, j < z → ∃ b, b < 256 ∧ f j = nI b) (hT : T < 6) (hl : W.length + out.length < 160) (hs : MS A f z T i W out) (h2 : 0 ≤ tk f z i ∧ tk f z i < 6) (h : ∀ A', MF T A A' → MS A' f z T (i + 1) (seF 7 W (out ++ [-10 - tk f z i])).1 (seF 7 W (out ++ [-10 - tk f z i])).2 → qG E mm_X7_isE (d + 3) 43 [(0, .ref 38)] [] A' L Ph) : BQ E (d + 3) A L Ph := by
  constructor
  · refine r_aload_n dX7_isE_5 rfl ?_
    refine r_callV0 dX7_isE_6 lk_X7_164 (ly_38 hE) rfl (Nat.le_of_ble_eq_true rfl) (bg_name hE hz hf hT (by omega) hs h2 (fun A1 f1 s1 => ?_))
    refine r_istore_n (loc' := [(1, .int 1), (0, .ref 38)]) dX7_isE_9 (by decide) rfl ?_
    refine r_iload_n dX7_isE_10 rfl ?_
    refine r_iconst (v := 2) dX7_isE_11 rfl ?_
    refine r_icmp_ne (tgt := 27) dX7_isE_12 (by decide) (fun _ => ?_) (fun hqz => absurd hqz (by decide))
    refine r_iload_n dX7_isE_27 rfl ?_
    refine r_if_ne (tgt := 33) dX7_isE_28 (by decide) (fun _ => ?_) (fun hqz => absurd hqz (by decide))
    refine r_aload_n dX7_isE_33 rfl ?_
    refine r_bipush (v := 7) dX7_isE_34 rfl ?_
    refine r_callV1 dX7_isE_36 lk_X7_170 (ly_38 hE) rfl (Nat.le_of_ble_eq_true rfl) (sp_settle (r := 7) hE hT (by decide) (by rw [List.length_append, List.length_singleton]; omega) s1 (fun A2 f2 s2 => ?_))
    refine r_aload_n dX7_isE_39 rfl ?_
    refine r_callV0 dX7_isE_40 lk_X7_167 (ly_38 hE) rfl (Nat.le_of_ble_eq_true rfl) (sp_next (i := i + 1) hE hz s2.1.1 s2.1.2.1 s2.1.2.2.1 (fun A9 f9 k9 => ?_))
    refine qG.pick [1] rfl ?_
    exact h A9 ((f1.tr f2).tr (f9.mf (by decide) (by decide) (by decide))) (s2.nx f9 k9)
  · refine r_aload_n dX7_isE_19 rfl ?_
    refine r_callV0 dX7_isE_20 lk_X7_164 (ly_38 hE) rfl (Nat.le_of_ble_eq_true rfl) (bg_name hE hz hf hT (by omega) hs h2 (fun A1 f1 s1 => ?_))
    refine r_istore_n (loc' := [(1, .int 1), (0, .ref 38)]) dX7_isE_23 (by decide) rfl ?_
    refine r_goto (tgt := 10) dX7_isE_24 (by decide) ?_
    refine r_iload_n dX7_isE_10 rfl ?_
    refine r_iconst (v := 2) dX7_isE_11 rfl ?_
    refine r_icmp_ne (tgt := 27) dX7_isE_12 (by decide) (fun _ => ?_) (fun hqz => absurd hqz (by decide))
    refine r_iload_n dX7_isE_27 rfl ?_
    refine r_if_ne (tgt := 33) dX7_isE_28 (by decide) (fun _ => ?_) (fun hqz => absurd hqz (by decide))
    refine r_aload_n dX7_isE_33 rfl ?_
    refine r_bipush (v := 7) dX7_isE_34 rfl ?_
    refine r_callV1 dX7_isE_36 lk_X7_170 (ly_38 hE) rfl (Nat.le_of_ble_eq_true rfl) (sp_settle (r := 7) hE hT (by decide) (by rw [List.length_append, List.length_singleton]; omega) s1 (fun A2 f2 s2 => ?_))
    refine r_aload_n dX7_isE_39 rfl ?_
    refine r_callV0 dX7_isE_40 lk_X7_167 (ly_38 hE) rfl (Nat.le_of_ble_eq_true rfl) (sp_next (i := i + 1) hE hz s2.1.1 s2.1.2.1 s2.1.2.2.1 (fun A9 f9 k9 => ?_))
    refine qG.pick [1] rfl ?_
    exact h A9 ((f1.tr f2).tr (f9.mf (by decide) (by decide) (by decide))) (s2.nx f9 k9)
set_option maxRecDepth 100000 in
set_option maxHeartbeats 1000000 in
theorem be_num (hE : hM E) (hz : z ≤ 160) (hf : ∀ j, j < z → ∃ b, b < 256 ∧ f j = nI b) (hT : T < 6) (hl : W.length + out.length < 160) (hs : MS A f z T i W out) (h1 : tk f z i = 300) (h : ∀ A', MF T A A' → MS A' f z T (i + 1) (seF 7 W (out ++ [am f z i])).1 (seF 7 W (out ++ [am f z i])).2 → qG E mm_X7_isE (d + 3) 43 [(0, .ref 38)] [] A' L Ph) : BQ E (d + 3) A L Ph := by
  constructor
  · refine r_aload_n dX7_isE_5 rfl ?_
    refine r_callV0 dX7_isE_6 lk_X7_164 (ly_38 hE) rfl (Nat.le_of_ble_eq_true rfl) (bg_num hE hz hf hT (by omega) hs h1 (fun A1 f1 s1 => ?_))
    refine r_istore_n (loc' := [(1, .int 1), (0, .ref 38)]) dX7_isE_9 (by decide) rfl ?_
    refine r_iload_n dX7_isE_10 rfl ?_
    refine r_iconst (v := 2) dX7_isE_11 rfl ?_
    refine r_icmp_ne (tgt := 27) dX7_isE_12 (by decide) (fun _ => ?_) (fun hqz => absurd hqz (by decide))
    refine r_iload_n dX7_isE_27 rfl ?_
    refine r_if_ne (tgt := 33) dX7_isE_28 (by decide) (fun _ => ?_) (fun hqz => absurd hqz (by decide))
    refine r_aload_n dX7_isE_33 rfl ?_
    refine r_bipush (v := 7) dX7_isE_34 rfl ?_
    refine r_callV1 dX7_isE_36 lk_X7_170 (ly_38 hE) rfl (Nat.le_of_ble_eq_true rfl) (sp_settle (r := 7) hE hT (by decide) (by rw [List.length_append, List.length_singleton]; omega) s1 (fun A2 f2 s2 => ?_))
    refine r_aload_n dX7_isE_39 rfl ?_
    refine r_callV0 dX7_isE_40 lk_X7_167 (ly_38 hE) rfl (Nat.le_of_ble_eq_true rfl) (sp_next (i := i + 1) hE hz s2.1.1 s2.1.2.1 s2.1.2.2.1 (fun A9 f9 k9 => ?_))
    refine qG.pick [1] rfl ?_
    exact h A9 ((f1.tr f2).tr (f9.mf (by decide) (by decide) (by decide))) (s2.nx f9 k9)
  · refine r_aload_n dX7_isE_19 rfl ?_
    refine r_callV0 dX7_isE_20 lk_X7_164 (ly_38 hE) rfl (Nat.le_of_ble_eq_true rfl) (bg_num hE hz hf hT (by omega) hs h1 (fun A1 f1 s1 => ?_))
    refine r_istore_n (loc' := [(1, .int 1), (0, .ref 38)]) dX7_isE_23 (by decide) rfl ?_
    refine r_goto (tgt := 10) dX7_isE_24 (by decide) ?_
    refine r_iload_n dX7_isE_10 rfl ?_
    refine r_iconst (v := 2) dX7_isE_11 rfl ?_
    refine r_icmp_ne (tgt := 27) dX7_isE_12 (by decide) (fun _ => ?_) (fun hqz => absurd hqz (by decide))
    refine r_iload_n dX7_isE_27 rfl ?_
    refine r_if_ne (tgt := 33) dX7_isE_28 (by decide) (fun _ => ?_) (fun hqz => absurd hqz (by decide))
    refine r_aload_n dX7_isE_33 rfl ?_
    refine r_bipush (v := 7) dX7_isE_34 rfl ?_
    refine r_callV1 dX7_isE_36 lk_X7_170 (ly_38 hE) rfl (Nat.le_of_ble_eq_true rfl) (sp_settle (r := 7) hE hT (by decide) (by rw [List.length_append, List.length_singleton]; omega) s1 (fun A2 f2 s2 => ?_))
    refine r_aload_n dX7_isE_39 rfl ?_
    refine r_callV0 dX7_isE_40 lk_X7_167 (ly_38 hE) rfl (Nat.le_of_ble_eq_true rfl) (sp_next (i := i + 1) hE hz s2.1.1 s2.1.2.1 s2.1.2.2.1 (fun A9 f9 k9 => ?_))
    refine qG.pick [1] rfl ?_
    exact h A9 ((f1.tr f2).tr (f9.mf (by decide) (by decide) (by decide))) (s2.nx f9 k9)
set_option maxRecDepth 100000 in
set_option maxHeartbeats 1000000 in
theorem be_br (hE : hM E) (hz : z ≤ 160) (hf : ∀ j, j < z → ∃ b, b < 256 ∧ f j = nI b) (hT : T < 6) (hl : W.length + out.length < 160) (hs : MS A f z T i W out) (ht : tk f z i = 40) (ho : cn W < 5) (h : ∀ A', MF T A A' → MS A' f z T (i + 1) (0 :: W) out → BQ E (d + 3) A' L Ph) : BQ E (d + 3) A L Ph := by
  constructor
  · refine r_aload_n dX7_isE_5 rfl ?_
    refine r_callV0 dX7_isE_6 lk_X7_164 (ly_38 hE) rfl (Nat.le_of_ble_eq_true rfl) (bg_br hE hz hf (by omega) hs ht ho (fun A1 f1 s1 => ?_))
    refine r_istore_n (loc' := [(1, .int 2), (0, .ref 38)]) dX7_isE_9 (by decide) rfl ?_
    refine r_iload_n dX7_isE_10 rfl ?_
    refine r_iconst (v := 2) dX7_isE_11 rfl ?_
    refine r_icmp_ne (tgt := 27) dX7_isE_12 (by decide) (fun hqz => absurd (by decide) hqz) (fun _ => ?_)
    refine r_aload_n dX7_isE_15 rfl ?_
    refine r_callV0 dX7_isE_16 lk_X7_167 (ly_38 hE) rfl (Nat.le_of_ble_eq_true rfl) (sp_next (i := i + 1) hE hz s1.1.1 s1.1.2.1 s1.1.2.2.1 (fun A9 f9 k9 => ?_))
    refine qG.pick [1] rfl ?_
    exact (h A9 (f1.tr (f9.mf (by decide) (by decide) (by decide))) (s1.nx f9 k9)).2
  · refine r_aload_n dX7_isE_19 rfl ?_
    refine r_callV0 dX7_isE_20 lk_X7_164 (ly_38 hE) rfl (Nat.le_of_ble_eq_true rfl) (bg_br hE hz hf (by omega) hs ht ho (fun A1 f1 s1 => ?_))
    refine r_istore_n (loc' := [(1, .int 2), (0, .ref 38)]) dX7_isE_23 (by decide) rfl ?_
    refine r_goto (tgt := 10) dX7_isE_24 (by decide) ?_
    refine r_iload_n dX7_isE_10 rfl ?_
    refine r_iconst (v := 2) dX7_isE_11 rfl ?_
    refine r_icmp_ne (tgt := 27) dX7_isE_12 (by decide) (fun hqz => absurd (by decide) hqz) (fun _ => ?_)
    refine r_aload_n dX7_isE_15 rfl ?_
    refine r_callV0 dX7_isE_16 lk_X7_167 (ly_38 hE) rfl (Nat.le_of_ble_eq_true rfl) (sp_next (i := i + 1) hE hz s1.1.1 s1.1.2.1 s1.1.2.2.1 (fun A9 f9 k9 => ?_))
    refine qG.pick [1] rfl ?_
    exact (h A9 (f1.tr (f9.mf (by decide) (by decide) (by decide))) (s1.nx f9 k9)).2
set_option maxRecDepth 100000 in
set_option maxHeartbeats 1000000 in
theorem be_mi (hE : hM E) (hz : z ≤ 160) (hf : ∀ j, j < z → ∃ b, b < 256 ∧ f j = nI b) (hT : T < 6) (hl : W.length + out.length < 160) (hs : MS A f z T i W out) (ht : tk f z i = 45) (ho : cn W < 5) (h : ∀ A', MF T A A' → MS A' f z T (i + 1) (-28 :: W) out → BQ E (d + 3) A' L Ph) : BQ E (d + 3) A L Ph := by
  constructor
  · refine r_aload_n dX7_isE_5 rfl ?_
    refine r_callV0 dX7_isE_6 lk_X7_164 (ly_38 hE) rfl (Nat.le_of_ble_eq_true rfl) (bg_mi hE hz hf (by omega) hs ht ho (fun A1 f1 s1 => ?_))
    refine r_istore_n (loc' := [(1, .int 2), (0, .ref 38)]) dX7_isE_9 (by decide) rfl ?_
    refine r_iload_n dX7_isE_10 rfl ?_
    refine r_iconst (v := 2) dX7_isE_11 rfl ?_
    refine r_icmp_ne (tgt := 27) dX7_isE_12 (by decide) (fun hqz => absurd (by decide) hqz) (fun _ => ?_)
    refine r_aload_n dX7_isE_15 rfl ?_
    refine r_callV0 dX7_isE_16 lk_X7_167 (ly_38 hE) rfl (Nat.le_of_ble_eq_true rfl) (sp_next (i := i + 1) hE hz s1.1.1 s1.1.2.1 s1.1.2.2.1 (fun A9 f9 k9 => ?_))
    refine qG.pick [1] rfl ?_
    exact (h A9 (f1.tr (f9.mf (by decide) (by decide) (by decide))) (s1.nx f9 k9)).2
  · refine r_aload_n dX7_isE_19 rfl ?_
    refine r_callV0 dX7_isE_20 lk_X7_164 (ly_38 hE) rfl (Nat.le_of_ble_eq_true rfl) (bg_mi hE hz hf (by omega) hs ht ho (fun A1 f1 s1 => ?_))
    refine r_istore_n (loc' := [(1, .int 2), (0, .ref 38)]) dX7_isE_23 (by decide) rfl ?_
    refine r_goto (tgt := 10) dX7_isE_24 (by decide) ?_
    refine r_iload_n dX7_isE_10 rfl ?_
    refine r_iconst (v := 2) dX7_isE_11 rfl ?_
    refine r_icmp_ne (tgt := 27) dX7_isE_12 (by decide) (fun hqz => absurd (by decide) hqz) (fun _ => ?_)
    refine r_aload_n dX7_isE_15 rfl ?_
    refine r_callV0 dX7_isE_16 lk_X7_167 (ly_38 hE) rfl (Nat.le_of_ble_eq_true rfl) (sp_next (i := i + 1) hE hz s1.1.1 s1.1.2.1 s1.1.2.2.1 (fun A9 f9 k9 => ?_))
    refine qG.pick [1] rfl ?_
    exact (h A9 (f1.tr (f9.mf (by decide) (by decide) (by decide))) (s1.nx f9 k9)).2
set_option maxRecDepth 100000 in
set_option maxHeartbeats 1000000 in
theorem be_not (hE : hM E) (hz : z ≤ 160) (hf : ∀ j, j < z → ∃ b, b < 256 ∧ f j = nI b) (hT : T < 6) (hl : W.length + out.length < 160) (hs : MS A f z T i W out) (ht : tk f z i = 11) (hla : la W ≤ 3) (ho : cn W < 5) (h : ∀ A', MF T A A' → MS A' f z T (i + 1) (-22 :: W) out → BQ E (d + 3) A' L Ph) : BQ E (d + 3) A L Ph := by
  constructor
  · refine r_aload_n dX7_isE_5 rfl ?_
    refine r_callV0 dX7_isE_6 lk_X7_164 (ly_38 hE) rfl (Nat.le_of_ble_eq_true rfl) (bg_not hE hz hf (by omega) hs ht hla ho (fun A1 f1 s1 => ?_))
    refine r_istore_n (loc' := [(1, .int 2), (0, .ref 38)]) dX7_isE_9 (by decide) rfl ?_
    refine r_iload_n dX7_isE_10 rfl ?_
    refine r_iconst (v := 2) dX7_isE_11 rfl ?_
    refine r_icmp_ne (tgt := 27) dX7_isE_12 (by decide) (fun hqz => absurd (by decide) hqz) (fun _ => ?_)
    refine r_aload_n dX7_isE_15 rfl ?_
    refine r_callV0 dX7_isE_16 lk_X7_167 (ly_38 hE) rfl (Nat.le_of_ble_eq_true rfl) (sp_next (i := i + 1) hE hz s1.1.1 s1.1.2.1 s1.1.2.2.1 (fun A9 f9 k9 => ?_))
    refine qG.pick [1] rfl ?_
    exact (h A9 (f1.tr (f9.mf (by decide) (by decide) (by decide))) (s1.nx f9 k9)).2
  · refine r_aload_n dX7_isE_19 rfl ?_
    refine r_callV0 dX7_isE_20 lk_X7_164 (ly_38 hE) rfl (Nat.le_of_ble_eq_true rfl) (bg_not hE hz hf (by omega) hs ht hla ho (fun A1 f1 s1 => ?_))
    refine r_istore_n (loc' := [(1, .int 2), (0, .ref 38)]) dX7_isE_23 (by decide) rfl ?_
    refine r_goto (tgt := 10) dX7_isE_24 (by decide) ?_
    refine r_iload_n dX7_isE_10 rfl ?_
    refine r_iconst (v := 2) dX7_isE_11 rfl ?_
    refine r_icmp_ne (tgt := 27) dX7_isE_12 (by decide) (fun hqz => absurd (by decide) hqz) (fun _ => ?_)
    refine r_aload_n dX7_isE_15 rfl ?_
    refine r_callV0 dX7_isE_16 lk_X7_167 (ly_38 hE) rfl (Nat.le_of_ble_eq_true rfl) (sp_next (i := i + 1) hE hz s1.1.1 s1.1.2.1 s1.1.2.2.1 (fun A9 f9 k9 => ?_))
    refine qG.pick [1] rfl ?_
    exact (h A9 (f1.tr (f9.mf (by decide) (by decide) (by decide))) (s1.nx f9 k9)).2
set_option maxRecDepth 100000 in
set_option maxHeartbeats 1000000 in
theorem be_fail (hE : hM E) (hz : z ≤ 160) (hf : ∀ j, j < z → ∃ b, b < 256 ∧ f j = nI b) (hT : T < 6) (hl : W.length + out.length ≤ 160) (hs : MS A f z T i W out) (h1 : ¬ tk f z i = 300) (h2 : ¬ (0 ≤ tk f z i ∧ tk f z i < 6)) (h5 : cn W ≤ 5) (t45 : tk f z i = 45 → cn W = 5) (t40 : tk f z i = 40 → cn W = 5) (t11 : tk f z i = 11 → la W ≤ 3 → cn W = 5) (h : ∀ A', MF T A A' → A' 38 6 = nI (tS f z i) → Ph (some (.int 0)) A' L) : BQ E (d + 3) A L Ph := by
  constructor
  · refine r_aload_n dX7_isE_5 rfl ?_
    refine r_callV0 dX7_isE_6 lk_X7_164 (ly_38 hE) rfl (Nat.le_of_ble_eq_true rfl) (bg_fail hE hz hf (by omega) hs h1 h2 h5 t45 t40 t11 ?_)
    refine r_istore_n (loc' := [(1, .int 0), (0, .ref 38)]) dX7_isE_9 (by decide) rfl ?_
    refine r_iload_n dX7_isE_10 rfl ?_
    refine r_iconst (v := 2) dX7_isE_11 rfl ?_
    refine r_icmp_ne (tgt := 27) dX7_isE_12 (by decide) (fun _ => ?_) (fun hqz => absurd hqz (by decide))
    refine r_iload_n dX7_isE_27 rfl ?_
    refine r_if_ne (tgt := 33) dX7_isE_28 (by decide) (fun hqz => absurd (by decide) hqz) (fun _ => ?_)
    refine r_iconst (v := 0) dX7_isE_31 rfl ?_
    refine r_ireturn dX7_isE_32 rfl (by decide) ?_
    exact h A MF.rf hs.1.2.2.2.1
  · refine r_aload_n dX7_isE_19 rfl ?_
    refine r_callV0 dX7_isE_20 lk_X7_164 (ly_38 hE) rfl (Nat.le_of_ble_eq_true rfl) (bg_fail hE hz hf (by omega) hs h1 h2 h5 t45 t40 t11 ?_)
    refine r_istore_n (loc' := [(1, .int 0), (0, .ref 38)]) dX7_isE_23 (by decide) rfl ?_
    refine r_goto (tgt := 10) dX7_isE_24 (by decide) ?_
    refine r_iload_n dX7_isE_10 rfl ?_
    refine r_iconst (v := 2) dX7_isE_11 rfl ?_
    refine r_icmp_ne (tgt := 27) dX7_isE_12 (by decide) (fun _ => ?_) (fun hqz => absurd hqz (by decide))
    refine r_iload_n dX7_isE_27 rfl ?_
    refine r_if_ne (tgt := 33) dX7_isE_28 (by decide) (fun hqz => absurd (by decide) hqz) (fun _ => ?_)
    refine r_iconst (v := 0) dX7_isE_31 rfl ?_
    refine r_ireturn dX7_isE_32 rfl (by decide) ?_
    exact h A MF.rf hs.1.2.2.2.1
set_option maxRecDepth 100000 in
set_option maxHeartbeats 1000000 in
theorem af_close0 (hE : hM E) (hz : z ≤ 160) (hf : ∀ j, j < z → ∃ b, b < 256 ∧ f j = nI b) (hT : T < 6) (hl : W.length + out.length ≤ 160) (hs : MS A f z T i W out) (ht : tk f z i = 41) (h0 : (seF 1 W out).1 = []) (h : ∀ A', MF T A A' → A' 38 6 = nI (tS f z i) → Ph (some (.int 0)) A' L) : qG E mm_X7_isE (d + 3) 43 [(0, .ref 38)] [] A L Ph := by
  refine r_aload_n dX7_isE_43 rfl ?_
  refine r_bipush (v := 41) dX7_isE_44 rfl ?_
  refine r_callV1 dX7_isE_46 lk_X7_155 (ly_38 hE) rfl (Nat.le_of_ble_eq_true rfl) (sp_isSign hE hz hf (b := 41) (by decide) rfl hs.1 (fun _ => ?_) (fun y => absurd ht y))
  refine r_if_eq (tgt := 99) dX7_isE_49 (by decide) (fun hqz => absurd hqz (by decide)) (fun _ => ?_)
  refine r_aload_n dX7_isE_52 rfl ?_
  refine r_iconst (v := 1) dX7_isE_53 rfl ?_
  refine r_callV1 dX7_isE_54 lk_X7_170 (ly_38 hE) rfl (Nat.le_of_ble_eq_true rfl) (sp_settle (r := 1) hE hT (by decide) hl hs (fun A1 f1 s1 => ?_))
  refine r_aload_n dX7_isE_57 rfl ?_
  refine r_getI dX7_isE_58 fl_X7_137 (ly_38 hE) rfl ?_
  refine r_rw (y := 0) (by rw [s1.2.2.2.2.1, h0]; rfl) ?_
  refine r_if_ne (tgt := 66) dX7_isE_61 (by decide) (fun hqz => absurd (by decide) hqz) (fun _ => ?_)
  refine r_iconst (v := 0) dX7_isE_64 rfl ?_
  refine r_ireturn dX7_isE_65 rfl (by decide) ?_
  exact h A1 f1 s1.1.2.2.2.1
/-- a bracket is taken off -/
theorem MS.cl {A : mA} {f : Nat → Int32} {z T i : Nat} {V out : List Int32} (h : MS A f z T i (0 :: V) out) : MS (s2 (s2 A 38 15 (nI V.length)) 38 8 (nI (cn V))) f z T i V out := by
  obtain ⟨h1, h2, h3, h4, h5, h6, h7, h8⟩ := h
  exact ⟨h1.cg (by rw [s2_ne (by decide), s2_ne (by decide)]) (by rw [s2_nj (fun _ => by decide), s2_nj (fun _ => by decide)]) (by rw [s2_nj (fun _ => by decide), s2_nj (fun _ => by decide)]) (by rw [s2_nj (fun _ => by decide), s2_nj (fun _ => by decide)]) (by rw [s2_nj (fun _ => by decide), s2_nj (fun _ => by decide)]), s2_same, by rw [s2_nj (fun _ => by decide), s2_nj (fun _ => by decide)]; exact h3, by rw [s2_nj (fun _ => by decide), s2_nj (fun _ => by decide)]; exact h4, by rw [s2_nj (fun _ => by decide), s2_same], by rw [s2_ne (by decide), s2_ne (by decide)]; exact h6.2, by rw [s2_ne (by decide), s2_ne (by decide)]; exact h7, by rw [s2_ne (by decide), s2_ne (by decide)]; exact h8⟩
set_option maxRecDepth 100000 in
set_option maxHeartbeats 1000000 in
theorem af_close1 (hE : hM E) (hz : z ≤ 160) (hf : ∀ j, j < z → ∃ b, b < 256 ∧ f j = nI b) (hT : T < 6) (hl : W.length + out.length ≤ 160) (hs : MS A f z T i W out) (ht : tk f z i = 41) {V out1 : List Int32} (h0 : seF 1 W out = (0 :: V, out1)) (h : ∀ A', MF T A A' → MS A' f z T (i + 1) (seF 7 V out1).1 (seF 7 V out1).2 → qG E mm_X7_isE (d + 3) 43 [(0, .ref 38)] [] A' L Ph) : qG E mm_X7_isE (d + 3) 43 [(0, .ref 38)] [] A L Ph := by
  have hlen := seF_len (r := 1) W out
  rw [h0] at hlen
  have hlen : (0 :: V).length + out1.length = W.length + out.length := hlen
  rw [List.length_cons] at hlen
  refine r_aload_n dX7_isE_43 rfl ?_
  refine r_bipush (v := 41) dX7_isE_44 rfl ?_
  refine r_callV1 dX7_isE_46 lk_X7_155 (ly_38 hE) rfl (Nat.le_of_ble_eq_true rfl) (sp_isSign hE hz hf (b := 41) (by decide) rfl hs.1 (fun _ => ?_) (fun y => absurd ht y))
  refine r_if_eq (tgt := 99) dX7_isE_49 (by decide) (fun hqz => absurd hqz (by decide)) (fun _ => ?_)
  refine r_aload_n dX7_isE_52 rfl ?_
  refine r_iconst (v := 1) dX7_isE_53 rfl ?_
  refine r_callV1 dX7_isE_54 lk_X7_170 (ly_38 hE) rfl (Nat.le_of_ble_eq_true rfl) (sp_settle (r := 1) hE hT (by decide) hl hs (fun A1 f1 s1 => ?_))
  rw [h0] at s1
  have s1 : MS A1 f z T i (0 :: V) out1 := s1
  have g15 := s1.2.2.2.2.1
  rw [List.length_cons] at g15
  have g8 := s1.2.1
  rw [cn0] at g8
  refine r_aload_n dX7_isE_57 rfl ?_
  refine r_getI dX7_isE_58 fl_X7_137 (ly_38 hE) rfl ?_
  refine r_rw (y := nI (V.length + 1)) g15 ?_
  refine r_if_ne (tgt := 66) dX7_isE_61 (by decide) (fun _ => ?_) (fun hqz => absurd hqz (fun y => by have := nI_z (by omega) y; omega))
  refine r_aload_n dX7_isE_66 rfl ?_
  refine r_dup dX7_isE_67 rfl ?_
  refine r_getI dX7_isE_68 fl_X7_137 (ly_38 hE) rfl ?_
  refine r_rw (y := nI (V.length + 1)) g15 ?_
  refine r_iconst (v := 1) dX7_isE_71 rfl ?_
  refine r_isub dX7_isE_72 ?_
  refine r_rw (y := nI V.length) (show nI (V.length + 1) - nI 1 = _ by rw [pk_sub (by omega)]; rfl) ?_
  refine r_putI dX7_isE_73 fl_X7_137 fp_7_15 (ly_38 hE) rfl rfl rfl ?_
  refine r_aload_n dX7_isE_76 rfl ?_
  refine r_dup dX7_isE_77 rfl ?_
  refine r_getI dX7_isE_78 fl_X7_149 (ly_38 hE) rfl ?_
  refine r_rw (y := nI (cn V + 1)) (by rw [s2_nj (fun _ => by decide)]; exact g8) ?_
  refine r_iconst (v := 1) dX7_isE_81 rfl ?_
  refine r_isub dX7_isE_82 ?_
  refine r_rw (y := nI (cn V)) (show nI (cn V + 1) - nI 1 = _ by rw [pk_sub (by omega)]; rfl) ?_
  refine r_putI dX7_isE_83 fl_X7_149 fp_7_8 (ly_38 hE) rfl rfl rfl ?_
  have q2 := s1.cl
  have f2 : MF T A1 (s2 (s2 A1 38 15 (nI V.length)) 38 8 (nI (cn V))) := ((F8.st (X := [15]) (by decide)).mf (by decide) (by decide) (by decide)).tr ((F8.st (X := [8]) (by decide)).mf (by decide) (by decide) (by decide))
  refine r_aload_n dX7_isE_86 rfl ?_
  refine r_bipush (v := 7) dX7_isE_87 rfl ?_
  refine r_callV1 dX7_isE_89 lk_X7_170 (ly_38 hE) rfl (Nat.le_of_ble_eq_true rfl) (sp_settle (r := 7) hE hT (by decide) (by omega) q2 (fun A3 f3 s3 => ?_))
  refine r_aload_n dX7_isE_92 rfl ?_
  refine r_callV0 dX7_isE_93 lk_X7_167 (ly_38 hE) rfl (Nat.le_of_ble_eq_true rfl) (sp_next (i := i + 1) hE hz s3.1.1 s3.1.2.1 s3.1.2.2.1 (fun A9 f9 k9 => ?_))
  refine r_goto (tgt := 43) dX7_isE_96 (by decide) ?_
  refine qG.pick [0] rfl ?_
  exact h A9 (((f1.tr f2).tr f3).tr (f9.mf (by decide) (by decide) (by decide))) (s3.nx f9 k9)
set_option maxRecDepth 100000 in
set_option maxHeartbeats 1000000 in
theorem af_end (hE : hM E) (hz : z ≤ 160) (hf : ∀ j, j < z → ∃ b, b < 256 ∧ f j = nI b) (hT : T < 6) (hl : W.length + out.length ≤ 160) (hs : MS A f z T i W out) (ht : ¬ tk f z i = 41) (hd : btw (tk f z i) = 0) (h0 : (seF 1 W out).1 ≠ [] → ∀ A', MF T A A' → A' 38 6 = nI (tS f z i) → Ph (some (.int 0)) A' L) (h1 : (seF 1 W out).1 = [] → ∀ A', MF T A A' → MS A' f z T i [] (seF 1 W out).2 → Ph (some (.int 1)) A' L) : qG E mm_X7_isE (d + 3) 43 [(0, .ref 38)] [] A L Ph := by
  have hlen := seF_len (r := 1) W out
  rcases seF_0 (r := 1) (by decide) W out with e | ⟨V, e⟩
  · refine r_aload_n dX7_isE_43 rfl ?_
    refine r_bipush (v := 41) dX7_isE_44 rfl ?_
    refine r_callV1 dX7_isE_46 lk_X7_155 (ly_38 hE) rfl (Nat.le_of_ble_eq_true rfl) (sp_isSign hE hz hf (b := 41) (by decide) rfl hs.1 (fun y => absurd y ht) (fun _ => ?_))
    refine r_if_eq (tgt := 99) dX7_isE_49 (by decide) (fun _ => ?_) (fun hqz => absurd (by decide) hqz)
    refine r_aload_n dX7_isE_99 rfl ?_
    refine r_callV0 dX7_isE_100 lk_X7_173 (ly_38 hE) rfl (Nat.le_of_ble_eq_true rfl) (sp_between hE hz hf hs ?_)
    refine r_rw (y := 0) hd ?_
    refine r_istore_n (loc' := [(2, .int 0), (0, .ref 38)]) dX7_isE_103 (by decide) rfl ?_
    refine r_iload_n dX7_isE_104 rfl ?_
    refine r_if_ne (tgt := 126) dX7_isE_105 (by decide) (fun hqz => absurd (by decide) hqz) (fun _ => ?_)
    refine r_aload_n dX7_isE_108 rfl ?_
    refine r_iconst (v := 1) dX7_isE_109 rfl ?_
    refine r_callV1 dX7_isE_110 lk_X7_170 (ly_38 hE) rfl (Nat.le_of_ble_eq_true rfl) (sp_settle (r := 1) hE hT (by decide) hl hs (fun A1 f1 s1 => ?_))
    rw [e] at s1
    refine r_aload_n dX7_isE_113 rfl ?_
    refine r_getI dX7_isE_114 fl_X7_137 (ly_38 hE) rfl ?_
    refine r_rw (y := 0) s1.2.2.2.2.1 ?_
    refine r_if_ne (tgt := 124) dX7_isE_117 (by decide) (fun hqz => absurd (by decide) hqz) (fun _ => ?_)
    refine r_iconst (v := 1) dX7_isE_120 rfl ?_
    refine r_goto (tgt := 125) dX7_isE_121 (by decide) ?_
    refine r_ireturn dX7_isE_125 rfl (by decide) ?_
    exact h1 e A1 f1 s1
  · refine r_aload_n dX7_isE_43 rfl ?_
    refine r_bipush (v := 41) dX7_isE_44 rfl ?_
    refine r_callV1 dX7_isE_46 lk_X7_155 (ly_38 hE) rfl (Nat.le_of_ble_eq_true rfl) (sp_isSign hE hz hf (b := 41) (by decide) rfl hs.1 (fun y => absurd y ht) (fun _ => ?_))
    refine r_if_eq (tgt := 99) dX7_isE_49 (by decide) (fun _ => ?_) (fun hqz => absurd (by decide) hqz)
    refine r_aload_n dX7_isE_99 rfl ?_
    refine r_callV0 dX7_isE_100 lk_X7_173 (ly_38 hE) rfl (Nat.le_of_ble_eq_true rfl) (sp_between hE hz hf hs ?_)
    refine r_rw (y := 0) hd ?_
    refine r_istore_n (loc' := [(2, .int 0), (0, .ref 38)]) dX7_isE_103 (by decide) rfl ?_
    refine r_iload_n dX7_isE_104 rfl ?_
    refine r_if_ne (tgt := 126) dX7_isE_105 (by decide) (fun hqz => absurd (by decide) hqz) (fun _ => ?_)
    refine r_aload_n dX7_isE_108 rfl ?_
    refine r_iconst (v := 1) dX7_isE_109 rfl ?_
    refine r_callV1 dX7_isE_110 lk_X7_170 (ly_38 hE) rfl (Nat.le_of_ble_eq_true rfl) (sp_settle (r := 1) hE hT (by decide) hl hs (fun A1 f1 s1 => ?_))
    rw [e] at s1 hlen
    have g15 := s1.2.2.2.2.1
    rw [List.length_cons] at g15 hlen
    refine r_aload_n dX7_isE_113 rfl ?_
    refine r_getI dX7_isE_114 fl_X7_137 (ly_38 hE) rfl ?_
    refine r_rw (y := nI (V.length + 1)) g15 ?_
    refine r_if_ne (tgt := 124) dX7_isE_117 (by decide) (fun _ => ?_) (fun hqz => absurd hqz (fun y => by have := nI_z (by omega) y; omega))
    refine r_iconst (v := 0) dX7_isE_124 rfl ?_
    refine r_ireturn dX7_isE_125 rfl (by decide) ?_
    exact h0 (by rw [e]; exact List.cons_ne_nil _ _) A1 f1 s1.1.2.2.2.1
set_option maxRecDepth 100000 in
set_option maxHeartbeats 1000000 in
theorem af_deed (hE : hM E) (hz : z ≤ 160) (hf : ∀ j, j < z → ∃ b, b < 256 ∧ f j = nI b) (hT : T < 6) (hl : W.length + out.length < 160) (hs : MS A f z T i W out) (ht : ¬ tk f z i = 41) {x : Int32} (hd : btw (tk f z i) = x) (hx : ¬ (x = 0 ∨ x = -22 ∨ x = -28)) (hr : ¬ rkN x = 4) {W1 out1 : List Int32} (h0 : seF (rkN x) W out = (W1, out1)) (h : ∀ A', MF T A A' → MS A' f z T (i + 1) (x :: W1) out1 → BQ E (d + 3) A' L Ph) : qG E mm_X7_isE (d + 3) 43 [(0, .ref 38)] [] A L Ph := by
  have hr7 := rkN_le x
  have hlen := seF_len (r := rkN x) W out
  rw [h0] at hlen
  have hlen : W1.length + out1.length = W.length + out.length := hlen
  refine r_aload_n dX7_isE_43 rfl ?_
  refine r_bipush (v := 41) dX7_isE_44 rfl ?_
  refine r_callV1 dX7_isE_46 lk_X7_155 (ly_38 hE) rfl (Nat.le_of_ble_eq_true rfl) (sp_isSign hE hz hf (b := 41) (by decide) rfl hs.1 (fun y => absurd y ht) (fun _ => ?_))
  refine r_if_eq (tgt := 99) dX7_isE_49 (by decide) (fun _ => ?_) (fun hqz => absurd (by decide) hqz)
  refine r_aload_n dX7_isE_99 rfl ?_
  refine r_callV0 dX7_isE_100 lk_X7_173 (ly_38 hE) rfl (Nat.le_of_ble_eq_true rfl) (sp_between hE hz hf hs ?_)
  refine r_rw (y := x) hd ?_
  refine r_istore_n (loc' := [(2, .int x), (0, .ref 38)]) dX7_isE_103 (by decide) rfl ?_
  refine r_iload_n dX7_isE_104 rfl ?_
  refine r_if_ne (tgt := 126) dX7_isE_105 (by decide) (fun _ => ?_) (fun hqz => absurd hqz (fun y => hx (Or.inl y)))
  refine r_aload_n dX7_isE_126 rfl ?_
  refine r_iload_n dX7_isE_127 rfl ?_
  refine r_callS1 dX7_isE_128 lk_X7_140 (Nat.le_of_ble_eq_true rfl) (sp_rank ?_)
  refine r_iconst (v := 4) dX7_isE_131 rfl ?_
  refine r_icmp_ne (tgt := 139) dX7_isE_132 (by decide) (fun _ => ?_) (fun hqz => absurd hqz (fun y => hr ((nI_eq (b := 4) (by omega) (by decide)).mp y)))
  refine r_iload_n dX7_isE_139 rfl ?_
  refine r_callS1 dX7_isE_140 lk_X7_140 (Nat.le_of_ble_eq_true rfl) (sp_rank ?_)
  refine r_callV1 dX7_isE_143 lk_X7_170 (ly_38 hE) rfl (Nat.le_of_ble_eq_true rfl) (sp_settle hE hT hr7 (by omega) hs (fun A1 f1 s1 => ?_))
  rw [h0] at s1
  have s1 : MS A1 f z T i W1 out1 := s1
  refine r_iload_n dX7_isE_146 rfl ?_
  refine r_callS1 dX7_isE_147 lk_X7_140 (Nat.le_of_ble_eq_true rfl) (sp_rank ?_)
  refine r_iconst (v := 4) dX7_isE_150 rfl ?_
  refine r_icmp_ne (tgt := 164) dX7_isE_151 (by decide) (fun _ => ?_) (fun hqz => absurd hqz (fun y => hr ((nI_eq (b := 4) (by omega) (by decide)).mp y)))
  refine r_aload_n dX7_isE_164 rfl ?_
  refine r_iload_n dX7_isE_165 rfl ?_
  refine r_callV1 dX7_isE_166 lk_X7_161 (ly_38 hE) rfl (Nat.le_of_ble_eq_true rfl) (sp_await hE (show W1.length < 160 by omega) s1.2.2.2.2.1 ?_)
  have q2 := s1.aw hx
  refine r_aload_n dX7_isE_169 rfl ?_
  refine r_callV0 dX7_isE_170 lk_X7_167 (ly_38 hE) rfl (Nat.le_of_ble_eq_true rfl) (sp_next (i := i + 1) hE hz q2.1.1 q2.1.2.1 q2.1.2.2.1 (fun A9 f9 k9 => ?_))
  refine r_goto (tgt := 5) dX7_isE_173 (by decide) ?_
  refine qG.pick [1] rfl ?_
  exact (h A9 ((f1.tr awA_mf).tr (f9.mf (by decide) (by decide) (by decide))) (q2.nx f9 k9)).1
set_option maxRecDepth 100000 in
set_option maxHeartbeats 1000000 in
theorem af_cmp (hE : hM E) (hz : z ≤ 160) (hf : ∀ j, j < z → ∃ b, b < 256 ∧ f j = nI b) (hT : T < 6) (hl : W.length + out.length < 160) (hs : MS A f z T i W out) (ht : ¬ tk f z i = 41) {x : Int32} (hd : btw (tk f z i) = x) (hx : ¬ (x = 0 ∨ x = -22 ∨ x = -28)) (hr : rkN x = 4) {W1 out1 : List Int32} (h0 : seF 5 W out = (W1, out1)) (hla : la W1 ≤ 3) (h : ∀ A', MF T A A' → MS A' f z T (i + 1) (x :: W1) out1 → BQ E (d + 3) A' L Ph) : qG E mm_X7_isE (d + 3) 43 [(0, .ref 38)] [] A L Ph := by
  have hlen := seF_len (r := 5) W out
  rw [h0] at hlen
  have hlen : W1.length + out1.length = W.length + out.length := hlen
  refine r_aload_n dX7_isE_43 rfl ?_
  refine r_bipush (v := 41) dX7_isE_44 rfl ?_
  refine r_callV1 dX7_isE_46 lk_X7_155 (ly_38 hE) rfl (Nat.le_of_ble_eq_true rfl) (sp_isSign hE hz hf (b := 41) (by decide) rfl hs.1 (fun y => absurd y ht) (fun _ => ?_))
  refine r_if_eq (tgt := 99) dX7_isE_49 (by decide) (fun _ => ?_) (fun hqz => absurd (by decide) hqz)
  refine r_aload_n dX7_isE_99 rfl ?_
  refine r_callV0 dX7_isE_100 lk_X7_173 (ly_38 hE) rfl (Nat.le_of_ble_eq_true rfl) (sp_between hE hz hf hs ?_)
  refine r_rw (y := x) hd ?_
  refine r_istore_n (loc' := [(2, .int x), (0, .ref 38)]) dX7_isE_103 (by decide) rfl ?_
  refine r_iload_n dX7_isE_104 rfl ?_
  refine r_if_ne (tgt := 126) dX7_isE_105 (by decide) (fun _ => ?_) (fun hqz => absurd hqz (fun y => hx (Or.inl y)))
  refine r_aload_n dX7_isE_126 rfl ?_
  refine r_iload_n dX7_isE_127 rfl ?_
  refine r_callS1 dX7_isE_128 lk_X7_140 (Nat.le_of_ble_eq_true rfl) (sp_rank ?_)
  refine r_rw (y := 4) (by rw [hr]; rfl) ?_
  refine r_iconst (v := 4) dX7_isE_131 rfl ?_
  refine r_icmp_ne (tgt := 139) dX7_isE_132 (by decide) (fun hqz => absurd (by decide) hqz) (fun _ => ?_)
  refine r_iconst (v := 5) dX7_isE_135 rfl ?_
  refine r_goto (tgt := 143) dX7_isE_136 (by decide) ?_
  refine r_callV1 dX7_isE_143 lk_X7_170 (ly_38 hE) rfl (Nat.le_of_ble_eq_true rfl) (sp_settle (r := 5) hE hT (by decide) (by omega) hs (fun A1 f1 s1 => ?_))
  rw [h0] at s1
  have s1 : MS A1 f z T i W1 out1 := s1
  refine r_iload_n dX7_isE_146 rfl ?_
  refine r_callS1 dX7_isE_147 lk_X7_140 (Nat.le_of_ble_eq_true rfl) (sp_rank ?_)
  refine r_rw (y := 4) (by rw [hr]; rfl) ?_
  refine r_iconst (v := 4) dX7_isE_150 rfl ?_
  refine r_icmp_ne (tgt := 164) dX7_isE_151 (by decide) (fun hqz => absurd (by decide) hqz) (fun _ => ?_)
  refine r_aload_n dX7_isE_154 rfl ?_
  refine r_callV0 dX7_isE_155 lk_X7_143 (ly_38 hE) rfl (Nat.le_of_ble_eq_true rfl) (sp_last hE (by omega) s1.2.2.2.2.1 s1.2.2.2.2.2.1 ?_)
  refine r_iconst (v := 4) dX7_isE_158 rfl ?_
  refine r_icmp_ne (tgt := 164) dX7_isE_159 (by decide) (fun _ => ?_) (fun hqz => absurd hqz (fun y => by have := (nI_eq (b := 4) (by omega) (by decide)).mp y; omega))
  refine r_aload_n dX7_isE_164 rfl ?_
  refine r_iload_n dX7_isE_165 rfl ?_
  refine r_callV1 dX7_isE_166 lk_X7_161 (ly_38 hE) rfl (Nat.le_of_ble_eq_true rfl) (sp_await hE (show W1.length < 160 by omega) s1.2.2.2.2.1 ?_)
  have q2 := s1.aw hx
  refine r_aload_n dX7_isE_169 rfl ?_
  refine r_callV0 dX7_isE_170 lk_X7_167 (ly_38 hE) rfl (Nat.le_of_ble_eq_true rfl) (sp_next (i := i + 1) hE hz q2.1.1 q2.1.2.1 q2.1.2.2.1 (fun A9 f9 k9 => ?_))
  refine r_goto (tgt := 5) dX7_isE_173 (by decide) ?_
  refine qG.pick [1] rfl ?_
  exact (h A9 ((f1.tr awA_mf).tr (f9.mf (by decide) (by decide) (by decide))) (q2.nx f9 k9)).1
set_option maxRecDepth 100000 in
set_option maxHeartbeats 1000000 in
theorem af_cmpx (hE : hM E) (hz : z ≤ 160) (hf : ∀ j, j < z → ∃ b, b < 256 ∧ f j = nI b) (hT : T < 6) (hl : W.length + out.length ≤ 160) (hs : MS A f z T i W out) (ht : ¬ tk f z i = 41) {x : Int32} (hd : btw (tk f z i) = x) (hx : ¬ (x = 0 ∨ x = -22 ∨ x = -28)) (hr : rkN x = 4) {W1 out1 : List Int32} (h0 : seF 5 W out = (W1, out1)) (hla : la W1 = 4) (h : ∀ A', MF T A A' → A' 38 6 = nI (tS f z i) → Ph (some (.int 0)) A' L) : qG E mm_X7_isE (d + 3) 43 [(0, .ref 38)] [] A L Ph := by
  have hlen := seF_len (r := 5) W out
  rw [h0] at hlen
  have hlen : W1.length + out1.length = W.length + out.length := hlen
  refine r_aload_n dX7_isE_43 rfl ?_
  refine r_bipush (v := 41) dX7_isE_44 rfl ?_
  refine r_callV1 dX7_isE_46 lk_X7_155 (ly_38 hE) rfl (Nat.le_of_ble_eq_true rfl) (sp_isSign hE hz hf (b := 41) (by decide) rfl hs.1 (fun y => absurd y ht) (fun _ => ?_))
  refine r_if_eq (tgt := 99) dX7_isE_49 (by decide) (fun _ => ?_) (fun hqz => absurd (by decide) hqz)
  refine r_aload_n dX7_isE_99 rfl ?_
  refine r_callV0 dX7_isE_100 lk_X7_173 (ly_38 hE) rfl (Nat.le_of_ble_eq_true rfl) (sp_between hE hz hf hs ?_)
  refine r_rw (y := x) hd ?_
  refine r_istore_n (loc' := [(2, .int x), (0, .ref 38)]) dX7_isE_103 (by decide) rfl ?_
  refine r_iload_n dX7_isE_104 rfl ?_
  refine r_if_ne (tgt := 126) dX7_isE_105 (by decide) (fun _ => ?_) (fun hqz => absurd hqz (fun y => hx (Or.inl y)))
  refine r_aload_n dX7_isE_126 rfl ?_
  refine r_iload_n dX7_isE_127 rfl ?_
  refine r_callS1 dX7_isE_128 lk_X7_140 (Nat.le_of_ble_eq_true rfl) (sp_rank ?_)
  refine r_rw (y := 4) (by rw [hr]; rfl) ?_
  refine r_iconst (v := 4) dX7_isE_131 rfl ?_
  refine r_icmp_ne (tgt := 139) dX7_isE_132 (by decide) (fun hqz => absurd (by decide) hqz) (fun _ => ?_)
  refine r_iconst (v := 5) dX7_isE_135 rfl ?_
  refine r_goto (tgt := 143) dX7_isE_136 (by decide) ?_
  refine r_callV1 dX7_isE_143 lk_X7_170 (ly_38 hE) rfl (Nat.le_of_ble_eq_true rfl) (sp_settle (r := 5) hE hT (by decide) (by omega) hs (fun A1 f1 s1 => ?_))
  rw [h0] at s1
  have s1 : MS A1 f z T i W1 out1 := s1
  refine r_iload_n dX7_isE_146 rfl ?_
  refine r_callS1 dX7_isE_147 lk_X7_140 (Nat.le_of_ble_eq_true rfl) (sp_rank ?_)
  refine r_rw (y := 4) (by rw [hr]; rfl) ?_
  refine r_iconst (v := 4) dX7_isE_150 rfl ?_
  refine r_icmp_ne (tgt := 164) dX7_isE_151 (by decide) (fun hqz => absurd (by decide) hqz) (fun _ => ?_)
  refine r_aload_n dX7_isE_154 rfl ?_
  refine r_callV0 dX7_isE_155 lk_X7_143 (ly_38 hE) rfl (Nat.le_of_ble_eq_true rfl) (sp_last hE (by omega) s1.2.2.2.2.1 s1.2.2.2.2.2.1 ?_)
  refine r_iconst (v := 4) dX7_isE_158 rfl ?_
  refine r_icmp_ne (tgt := 164) dX7_isE_159 (by decide) (fun hqz => absurd (by rw [hla]; rfl) hqz) (fun _ => ?_)
  refine r_iconst (v := 0) dX7_isE_162 rfl ?_
  refine r_ireturn dX7_isE_163 rfl (by decide) ?_
  exact h A1 f1 s1.1.2.2.2.1
end ISE
