/-! a whole text -/
abbrev ptT : Type := Nat ⊕ (List Int32 × List Nat)
def pT (tk am : Nat → Int32) (F : Nat) : Nat → Nat → Nat → List Int32 → List Nat → ptT
  | 0, _, i, out, es => if tk i = 301 then .inr (out, es) else .inl i
  | k + 1, p, i, out, es =>
    if tk i = nI (6 + p) then
      match pz tk am F 0 0 (i + 1) with
      | .inl j => .inl j
      | .inr (j, c) => if tk j = 59 then pT tk am F k (p + 1) (j + 1) (out ++ c) (es ++ [(out ++ c).length]) else .inl j
    else .inl i
section PT
variable {tk am : Nat → Int32} {F k p i j : Nat} {out c : List Int32} {es : List Nat}
theorem pT_0 (h : tk i = 301) : pT tk am F 0 p i out es = .inr (out, es) := by rw [pT, if_pos h]
theorem pT_1 (h : ¬ tk i = 301) : pT tk am F 0 p i out es = .inl i := by rw [pT, if_neg h]
theorem pT_2 (h : ¬ tk i = nI (6 + p)) : pT tk am F (k + 1) p i out es = .inl i := by rw [pT, if_neg h]
theorem pT_3 (h : tk i = nI (6 + p)) (h2 : pz tk am F 0 0 (i + 1) = .inl j) : pT tk am F (k + 1) p i out es = .inl j := by rw [pT, if_pos h, h2]
theorem pT_4 (h : tk i = nI (6 + p)) (h2 : pz tk am F 0 0 (i + 1) = .inr (j, c)) (h3 : ¬ tk j = 59) : pT tk am F (k + 1) p i out es = .inl j := by
  rw [pT, if_pos h, h2]
  simp only [if_neg h3]
theorem pT_5 (h : tk i = nI (6 + p)) (h2 : pz tk am F 0 0 (i + 1) = .inr (j, c)) (h3 : tk j = 59) : pT tk am F (k + 1) p i out es = pT tk am F k (p + 1) (j + 1) (out ++ c) (es ++ [(out ++ c).length]) := by
  rw [pT, if_pos h, h2]
  simp only [if_pos h3]
end PT
theorem nI6 {p : Nat} (hp : p < 3) : nI (6 + p) ≠ 301 := fun y => absurd ((nI_eq (a := 6 + p) (b := 301) (by omega) (by decide)).mp y) (by omega)
/-- what a good text is made of -/
theorem pT_ok {f : Nat → Int32} {z : Nat} (hz : z ≤ 160) (hf : ∀ j, j < z → ∃ b, b < 256 ∧ f j = nI b) {F : Nat} {out : List Int32} {es : List Nat} (h : pT (tk f z) (am f z) F 3 0 0 [] [] = .inr (out, es)) : ∃ c0 c1 c2 : List Int32, out = c0 ++ c1 ++ c2 ∧ es = [c0.length, (c0 ++ c1).length, (c0 ++ c1 ++ c2).length] ∧ tkn c0 0 1 ∧ tkn c1 0 1 ∧ tkn c2 0 1 ∧ out.length ≤ 160 := by
  have step : ∀ {k p i : Nat} {out0 : List Int32} {es0 : List Nat}, p < 3 → i ≤ tE f z i → pT (tk f z) (am f z) F (k + 1) p i out0 es0 = .inr (out, es) → ∃ j c, tkn c 0 1 ∧ pT (tk f z) (am f z) F k (p + 1) j (out0 ++ c) (es0 ++ [(out0 ++ c).length]) = .inr (out, es) ∧ j ≤ tE f z j ∧ i + c.length + 1 ≤ j := by
    intro k p i out0 es0 hp hi h
    by_cases h1 : tk f z i = nI (6 + p)
    · have hv := vl_up hz hf hi (by rw [h1]; exact nI6 hp)
      rcases rs_cases (pz (tk f z) (am f z) F 0 0 (i + 1)) with ⟨j, e1⟩ | ⟨j, c, e1⟩
      · rw [pT_3 h1 e1] at h; cases h
      · by_cases h3 : tk f z j = 59
        · rw [pT_5 h1 e1 h3] at h
          have ok := pz_ok (vl := fun i => i ≤ tE f z i) (fun i hi ht => (vl_up hz hf hi ht).1) (fun i ht => am_ok hz hf ht) F 0 0 (i + 1) j c (by decide) e1 hv.1
          have h5 := vl_up hz hf ok.1 (by rw [h3]; decide)
          have h6 := ok.2.2.2.1
          have h7 := ok.2.2.1 (by decide)
          exact ⟨j + 1, c, ok.2.2.2.2.1 (by decide) 0, h, h5.1, by omega⟩
        · rw [pT_4 h1 e1 h3] at h; cases h
    · rw [pT_2 h1] at h; cases h
  obtain ⟨j0, c0, t0, h, v0, l0⟩ := step (by decide) (Nat.zero_le _) h
  obtain ⟨j1, c1, t1, h, v1, l1⟩ := step (by decide) v0 h
  obtain ⟨j2, c2, t2, h, v2, l2⟩ := step (by decide) v1 h
  have l3 := (tE_le (f := f) hz j2).1
  rcases Decidable.em (tk f z j2 = 301) with q | q
  · rw [pT_0 q] at h
    cases h
    refine ⟨c0, c1, c2, rfl, rfl, t0, t1, t2, ?_⟩
    rw [List.nil_append, List.length_append, List.length_append]
    omega
  · rw [pT_1 q] at h; cases h
def CG (T : Nat) (A A' : mA) : Prop := Fr [3, 4, 22, 23] A A' ∧ (∀ j, j < 160 * T → A' 22 j = A 22 j) ∧ (∀ j, j < 3 * T → A' 23 j = A 23 j) ∧ A' 3 4 = A 3 4
theorem CG.tr {T : Nat} {A B C : mA} (h1 : CG T A B) (h2 : CG T B C) : CG T A C := ⟨h1.1.tr h2.1, fun j hj => (h2.2.1 j hj).trans (h1.2.1 j hj), fun j hj => (h2.2.2.1 j hj).trans (h1.2.2.1 j hj), h2.2.2.2.trans h1.2.2.2⟩
theorem CG.rf {T : Nat} {A : mA} : CG T A A := ⟨Fr.rf, fun _ _ => rfl, fun _ _ => rfl, rfl⟩
theorem CF.cg {T : Nat} {A A' : mA} (h : CF T A A') : CG T A A' := ⟨h.1.mo (by decide), h.2.1, fun j _ => by rw [h.1 23 (by decide)], h.2.2.1⟩
theorem cg23 {T p : Nat} {A : mA} {v : Int32} : CG T A (s2 A 23 (3 * T + p) v) := ⟨Fr.s2 (by decide), fun j _ => by rw [s2_ne (by decide)], fun j hj => by rw [s2_nj (fun _ => by omega)], by rw [s2_ne (by decide)]⟩
theorem cg4 {T j : Nat} {A : mA} {v : Int32} : CG T A (s2 A 4 j v) := ⟨Fr.s2 (by decide), fun j _ => by rw [s2_ne (by decide)], fun j hj => by rw [s2_ne (by decide)], by rw [s2_ne (by decide)]⟩
theorem CS.e23 {A : mA} {f : Nat → Int32} {z T i j : Nat} {out : List Int32} {v : Int32} (h : CS A f z T i out) : CS (s2 A 23 j v) f z T i out := by
  unfold CS CT at *
  rw [s2_ne (by decide), s2_ne (by decide), s2_ne (by decide), s2_ne (by decide)]
  exact h
theorem CX.e23 {A : mA} {f : Nat → Int32} {z T i j : Nat} {v : Int32} (h : CX A f z T i) : CX (s2 A 23 j v) f z T i := by
  unfold CX at *
  rw [s2_ne (by decide), s2_ne (by decide)]
  exact h
theorem gN1 {es : List Nat} {x q : Nat} (h : q < es.length) : (es ++ [x]).getD q 0 = es.getD q 0 := by
  rw [List.getD_eq_getElem?_getD, List.getD_eq_getElem?_getD, List.getElem?_append_left h]
theorem gN2 {es : List Nat} {x : Nat} : (es ++ [x]).getD es.length 0 = x := by
  rw [List.getD_eq_getElem?_getD, List.getElem?_append_right (Nat.le_refl _), Nat.sub_self]
  rfl
/-- the ends that stand -/
def EN (A : mA) (k T : Nat) (es : List Nat) : Prop := ∀ q, q < es.length → A k (3 * T + q) = nI (es.getD q 0)
theorem EN.put {A : mA} {k T x : Nat} {es : List Nat} (h : EN A k T es) : EN (s2 A k (3 * T + es.length) (nI x)) k T (es ++ [x]) := by
  intro q hq
  rw [List.length_append, List.length_singleton] at hq
  rcases Nat.lt_or_ge q es.length with y | y
  · rw [s2_nj (fun _ => by omega), gN1 y]; exact h q y
  · rw [show q = es.length by omega, s2_same, gN2]
theorem EN.cf {A A' : mA} {k T : Nat} {es : List Nat} (h : EN A k T es) (hf : A' k = A k) : EN A' k T es := by
  unfold EN at *
  rw [hf]
  exact h
section CTX
variable {E : mE} {d : Nat} {A : mA} {L : mJ} {Ph : mP} {f : Nat → Int32} {z T i : Nat} {out : List Int32}
set_option maxRecDepth 100000 in
set_option maxHeartbeats 1000000 in
theorem sp_begin5 (hE : hC E) (h : Ph none (s2 A 3 3 0) L) : qC E mm_X5_begin d [.ref 3] A L Ph := by
  refine qC.enter (by decide) (Nat.le_of_ble_eq_true rfl) ?_
  refine r_aload_n dX5_begin_0 rfl ?_
  refine r_iconst (v := 0) dX5_begin_1 rfl ?_
  refine r_putI dX5_begin_2 fl_X5_21 fp_5_3 (ly_3 hE) rfl rfl rfl ?_
  refine r_return dX5_begin_5 rfl ?_
  exact h
set_option maxRecDepth 100000 in
set_option maxHeartbeats 1000000 in
theorem sp_endPart (hE : hC E) (hT : T < 6) {p n : Nat} (hp : p < 3) (h4 : A 3 4 = nI T) (h3 : A 3 3 = nI n) (h : Ph none (s2 A 23 (3 * T + p) (nI n)) L) : qC E mm_X5_endPart (d + 1) [.ref 3, .int (nI p)] A L Ph := by
  refine qC.enter (by decide) (Nat.le_of_ble_eq_true rfl) ?_
  refine r_aload_n dX5_endPart_0 rfl ?_
  refine r_getI dX5_endPart_1 fl_X5_25 (ly_3 hE) rfl ?_
  refine r_rw (y := nI T) h4 ?_
  refine r_bipush (v := 6) dX5_endPart_4 rfl ?_
  refine r_callN2 dX5_endPart_6 lk_X5_28 (Nat.le_of_ble_eq_true rfl) (win_t (lim := 6) rfl (by decide) hT ?_)
  refine r_if_eq (tgt := 37) dX5_endPart_9 (by decide) (fun hqz => absurd hqz (by decide)) (fun _ => ?_)
  refine r_iload_n dX5_endPart_12 rfl ?_
  refine r_iconst (v := 3) dX5_endPart_13 rfl ?_
  refine r_callN2 dX5_endPart_14 lk_X5_28 (Nat.le_of_ble_eq_true rfl) (win_t (lim := 3) rfl (by decide) hp ?_)
  refine r_if_eq (tgt := 37) dX5_endPart_17 (by decide) (fun hqz => absurd hqz (by decide)) (fun _ => ?_)
  refine r_aload_n dX5_endPart_20 rfl ?_
  refine r_getR dX5_endPart_21 fl_X5_15 (ly_3 hE) rfl ?_
  refine r_aload_n dX5_endPart_24 rfl ?_
  refine r_getI dX5_endPart_25 fl_X5_25 (ly_3 hE) rfl ?_
  refine r_rw (y := nI T) h4 ?_
  refine r_iconst (v := 3) dX5_endPart_28 rfl ?_
  refine r_imul dX5_endPart_29 ?_
  refine r_iload_n dX5_endPart_30 rfl ?_
  refine r_iadd dX5_endPart_31 ?_
  refine r_rw (y := nI (3 * T + p)) (show nI T * nI 3 + nI p = _ by rw [pk_mul, nI_add]; congr 1; omega) ?_
  refine r_aload_n dX5_endPart_32 rfl ?_
  refine r_getI dX5_endPart_33 fl_X5_21 (ly_3 hE) rfl ?_
  refine r_rw (y := nI n) h3 ?_
  refine r_iastN dX5_endPart_36 (ly_23 hE) (by omega) (by decide) ?_
  refine r_return dX5_endPart_37 rfl ?_
  exact h
set_option maxRecDepth 100000 in
set_option maxHeartbeats 1000000 in
theorem sp_keep (hE : hC E) (hT : T < 6) (h4 : A 3 4 = nI T) (h : Ph (some (.int (nI T))) (s2 A 3 4 (nI (T + 1))) L) : qC E mm_X5_keep (d + 1) [.ref 3] A L Ph := by
  refine qC.enter (by decide) (Nat.le_of_ble_eq_true rfl) ?_
  refine r_aload_n dX5_keep_0 rfl ?_
  refine r_bipush (v := 6) dX5_keep_1 rfl ?_
  refine r_aload_n dX5_keep_3 rfl ?_
  refine r_getI dX5_keep_4 fl_X5_25 (ly_3 hE) rfl ?_
  refine r_rw (y := nI T) h4 ?_
  refine r_iconst (v := 1) dX5_keep_7 rfl ?_
  refine r_iadd dX5_keep_8 ?_
  refine r_rw (y := nI (T + 1)) (nI_1 T) ?_
  refine r_mmin dX5_keep_9 lmn_X5_32 (Nat.le_of_ble_eq_true rfl) ?_
  refine r_rw (y := nI (T + 1)) ((mn_nI (a := T + 1) (b := 6) (by omega) (by decide)).trans (by congr 1; split <;> omega)) ?_
  refine r_putI dX5_keep_12 fl_X5_25 fp_5_4 (ly_3 hE) rfl rfl rfl ?_
  refine r_aload_n dX5_keep_15 rfl ?_
  refine r_getI dX5_keep_16 fl_X5_25 (ly_3 hE) rfl ?_
  refine r_rw (y := nI (T + 1)) s2_same ?_
  refine r_iconst (v := 1) dX5_keep_19 rfl ?_
  refine r_isub dX5_keep_20 ?_
  refine r_rw (y := nI T) (show nI (T + 1) - nI 1 = _ by rw [pk_sub (by omega)]; rfl) ?_
  refine r_ireturn dX5_keep_21 rfl rfl ?_
  exact h
set_option maxRecDepth 100000 in
set_option maxHeartbeats 1000000 in
theorem rd_x (hE : hC E) (hz : z ≤ 160) (hT : T < 6) {j : Nat} (h : ∀ A', CG T A A' → A' 4 2 = 0 → Ph (some (.int (nI (tS f z j)))) A' L) : ∀ (k p : Nat) (A1 : mA), p + k = 3 → CG T A A1 → CX A1 f z T j → qG E mm_X1_read (d + 12) 23 [(1, .int (nI p)), (0, .ref 4)] [] A1 L Ph := by
  intro k
  induction k with
  | zero =>
    intro p A1 hp fr cx
    have hp : p = 3 := by omega
    subst hp
    refine r_iload_n dX1_read_23 rfl ?_
    refine r_iconst (v := 3) dX1_read_24 rfl ?_
    refine r_icmp_ge (tgt := 62) dX1_read_25 (by decide) (fun _ => ?_) (fun hqz => absurd (nI_le (Nat.le_refl 3) (by decide)) hqz)
    refine r_aload_n dX1_read_62 rfl ?_
    refine r_sipush (v := 301) dX1_read_63 rfl ?_
    refine r_callV1 dX1_read_66 lk_X1_41 (ly_4 hE) rfl (Nat.le_of_ble_eq_true rfl) (need_x hE hz cx (by decide) (fun A3 f3 c3 => ?_))
    refine r_aload_n dX1_read_69 rfl ?_
    refine r_iconst (v := 0) dX1_read_70 rfl ?_
    refine r_putI dX1_read_71 fl_X1_19 fp_1_2 (ly_4 hE) rfl rfl rfl ?_
    refine r_aload_n dX1_read_74 rfl ?_
    refine r_getI dX1_read_75 fl_X1_30 (ly_4 hE) rfl ?_
    refine r_rw (y := nI (tS f z j)) (by rw [s2_nj (fun _ => by decide)]; exact c3.1) ?_
    refine r_ireturn dX1_read_78 rfl rfl ?_
    exact h _ (fr.tr (f3.cg.tr cg4)) s2_same
  | succ k ih =>
    intro p A1 hp fr cx
    have hp3 : p < 3 := by omega
    have n6 : ¬ (302 : Int32) = nI (6 + p) := fun y => absurd ((nI_eq (a := 302) (b := 6 + p) (by decide) (by omega)).mp y) (by omega)
    refine r_iload_n dX1_read_23 rfl ?_
    refine r_iconst (v := 3) dX1_read_24 rfl ?_
    refine r_icmp_ge (tgt := 62) dX1_read_25 (by decide) (fun hqz => absurd hqz (nI_ge hp3 (by decide))) (fun _ => ?_)
    refine r_aload_n dX1_read_28 rfl ?_
    refine r_bipush (v := 6) dX1_read_29 rfl ?_
    refine r_iload_n dX1_read_31 rfl ?_
    refine r_iadd dX1_read_32 ?_
    refine r_rw (y := nI (6 + p)) (nI_add 6 p) ?_
    refine r_callV1 dX1_read_33 lk_X1_41 (ly_4 hE) rfl (Nat.le_of_ble_eq_true rfl) (need_x hE hz cx n6 (fun A2 f2 c2 => ?_))
    refine r_aload_n dX1_read_36 rfl ?_
    refine r_iconst (v := 0) dX1_read_37 rfl ?_
    refine r_iconst (v := 0) dX1_read_38 rfl ?_
    refine r_callV2 dX1_read_39 lk_X1_45 (ly_4 hE) rfl (Nat.le_of_ble_eq_true rfl) (chain0_x hE hz hT c2 (fun A3 f3 c3 => ?_))
    refine r_aload_n dX1_read_42 rfl ?_
    refine r_bipush (v := 59) dX1_read_43 rfl ?_
    refine r_callV1 dX1_read_45 lk_X1_41 (ly_4 hE) rfl (Nat.le_of_ble_eq_true rfl) (need_x hE hz c3 (by decide) (fun A4 f4 c4 => ?_))
    obtain ⟨n, hn, e3⟩ := c4.2.2.2
    refine r_aload_n dX1_read_48 rfl ?_
    refine r_getR dX1_read_49 fl_X1_15 (ly_4 hE) rfl ?_
    refine r_iload_n dX1_read_52 rfl ?_
    refine r_callV1 dX1_read_53 lk_X1_49 (ly_3 hE) rfl (Nat.le_of_ble_eq_true rfl) (sp_endPart hE hT hp3 c4.2.2.1 e3 ?_)
    refine r_iinc (v := (nI (p + 1))) (loc' := [(1, .int (nI (p + 1))), (0, .ref 4)]) dX1_read_56 rfl ((nI_succ _).symm) (by decide) rfl ?_
    refine r_goto (tgt := 23) dX1_read_59 (by decide) ?_
    refine qG.pick [0, 1] rfl ?_
    exact ih (p + 1) _ (by omega) ((((fr.tr f2.cg).tr f3.cg).tr f4.cg).tr cg23) c4.e23
set_option maxRecDepth 100000 in
set_option maxHeartbeats 1000000 in
theorem rd_loop (hE : hC E) (hz : z ≤ 160) (hf : ∀ j, j < z → ∃ b, b < 256 ∧ f j = nI b) (hT : T < 6) {F : Nat} (hF : 2600 ≤ F) (hx : ∀ A' j, pT (tk f z) (am f z) F 3 0 0 [] [] = .inl j → CG T A A' → A' 4 2 = 0 → Ph (some (.int (nI (tS f z j)))) A' L) (hok : ∀ A' out es, pT (tk f z) (am f z) F 3 0 0 [] [] = .inr (out, es) → CG T A A' → A' 4 2 = 0 → (∀ j, j < out.length → A' 22 (160 * T + j) = enc (out.getD j 0)) → EN A' 23 T es → Ph (some (.int (-1))) A' L) : ∀ (k p i : Nat) (out : List Int32) (es : List Nat) (A1 : mA), p + k = 3 → es.length = p → i ≤ tE f z i → out.length ≤ i → pT (tk f z) (am f z) F 3 0 0 [] [] = pT (tk f z) (am f z) F k p i out es → CG T A A1 → CS A1 f z T i out → EN A1 23 T es → qG E mm_X1_read (d + 90) 23 [(1, .int (nI p)), (0, .ref 4)] [] A1 L Ph := by
  intro k
  induction k with
  | zero =>
    intro p i out es A1 hp hes hi ho hpt fr cs en
    have hp : p = 3 := by omega
    subst hp
    have h160 := (tE_le (f := f) hz i).1
    by_cases ht : tk f z i = 301
    · rw [pT_0 ht] at hpt
      refine r_iload_n dX1_read_23 rfl ?_
      refine r_iconst (v := 3) dX1_read_24 rfl ?_
      refine r_icmp_ge (tgt := 62) dX1_read_25 (by decide) (fun _ => ?_) (fun hqz => absurd (nI_le (Nat.le_refl 3) (by decide)) hqz)
      refine r_aload_n dX1_read_62 rfl ?_
      refine r_sipush (v := 301) dX1_read_63 rfl ?_
      refine r_callV1 dX1_read_66 lk_X1_41 (ly_4 hE) rfl (Nat.le_of_ble_eq_true rfl) (need_c hE hz hf cs ht (fun A3 f3 c3 => ?_))
      refine r_aload_n dX1_read_69 rfl ?_
      refine r_iconst (v := 0) dX1_read_70 rfl ?_
      refine r_putI dX1_read_71 fl_X1_19 fp_1_2 (ly_4 hE) rfl rfl rfl ?_
      refine r_aload_n dX1_read_74 rfl ?_
      refine r_getI dX1_read_75 fl_X1_30 (ly_4 hE) rfl ?_
      refine r_rw (y := -1) (by rw [s2_nj (fun _ => by decide)]; exact c3.2.1) ?_
      refine r_ireturn dX1_read_78 rfl rfl ?_
      exact hok _ out es hpt (fr.tr (f3.cg.tr cg4)) s2_same (fun j hj => by rw [s2_ne (by decide)]; exact c3.2.2.2.2 j hj) (en.cf (by rw [s2_ne (by decide), f3.1 23 (by decide)]))
    · rw [pT_1 ht] at hpt
      refine r_iload_n dX1_read_23 rfl ?_
      refine r_iconst (v := 3) dX1_read_24 rfl ?_
      refine r_icmp_ge (tgt := 62) dX1_read_25 (by decide) (fun _ => ?_) (fun hqz => absurd (nI_le (Nat.le_refl 3) (by decide)) hqz)
      refine r_aload_n dX1_read_62 rfl ?_
      refine r_sipush (v := 301) dX1_read_63 rfl ?_
      refine r_callV1 dX1_read_66 lk_X1_41 (ly_4 hE) rfl (Nat.le_of_ble_eq_true rfl) (need_n hE cs (by omega) ht (fun A3 f3 c3 => ?_))
      refine r_aload_n dX1_read_69 rfl ?_
      refine r_iconst (v := 0) dX1_read_70 rfl ?_
      refine r_putI dX1_read_71 fl_X1_19 fp_1_2 (ly_4 hE) rfl rfl rfl ?_
      refine r_aload_n dX1_read_74 rfl ?_
      refine r_getI dX1_read_75 fl_X1_30 (ly_4 hE) rfl ?_
      refine r_rw (y := nI (tS f z i)) (by rw [s2_nj (fun _ => by decide)]; exact c3.1) ?_
      refine r_ireturn dX1_read_78 rfl rfl ?_
      exact hx _ i hpt (fr.tr (f3.cg.tr cg4)) s2_same
  | succ k ih =>
    intro p i out es A1 hp hes hi ho hpt fr cs en
    have hp3 : p < 3 := by omega
    have h160 := (tE_le (f := f) hz i).1
    have rest : ∀ {j : Nat} {A2 : mA}, pT (tk f z) (am f z) F 3 0 0 [] [] = .inl j → CG T A A2 → CX A2 f z T j → qG E mm_X1_read (d + 90) 23 [(1, .int (nI (p + 1))), (0, .ref 4)] [] A2 L Ph := fun hj f2 c2 => rd_x hE hz hT (fun A' fa e => hx A' _ hj fa e) k (p + 1) _ (by omega) f2 c2
    by_cases h1 : tk f z i = nI (6 + p)
    · have hv := vl_up hz hf hi (by rw [h1]; exact nI6 hp3)
      have hI := (par_all hE hz hf hT F).1 0 (i + 1) (d + 88) out hv.1 (by omega) (by decide) (by omega) (by omega)
      rcases rs_cases (pz (tk f z) (am f z) F 0 0 (i + 1)) with ⟨j, e1⟩ | ⟨j, c, e1⟩
      · rw [pT_3 h1 e1] at hpt
        rw [e1] at hI
        refine r_iload_n dX1_read_23 rfl ?_
        refine r_iconst (v := 3) dX1_read_24 rfl ?_
        refine r_icmp_ge (tgt := 62) dX1_read_25 (by decide) (fun hqz => absurd hqz (nI_ge hp3 (by decide))) (fun _ => ?_)
        refine r_aload_n dX1_read_28 rfl ?_
        refine r_bipush (v := 6) dX1_read_29 rfl ?_
        refine r_iload_n dX1_read_31 rfl ?_
        refine r_iadd dX1_read_32 ?_
        refine r_rw (y := nI (6 + p)) (nI_add 6 p) ?_
        refine r_callV1 dX1_read_33 lk_X1_41 (ly_4 hE) rfl (Nat.le_of_ble_eq_true rfl) (need_c hE hz hf cs h1 (fun A2 f2 c2 => ?_))
        refine r_aload_n dX1_read_36 rfl ?_
        refine r_iconst (v := 0) dX1_read_37 rfl ?_
        refine r_iconst (v := 0) dX1_read_38 rfl ?_
        refine r_callV2 dX1_read_39 lk_X1_45 (ly_4 hE) rfl (Nat.le_of_ble_eq_true rfl) (hI A2 L _ c2 (fun A3 f3 q3 => ?_))
        have c3 : CX A3 f z T j := q3
        refine r_aload_n dX1_read_42 rfl ?_
        refine r_bipush (v := 59) dX1_read_43 rfl ?_
        refine r_callV1 dX1_read_45 lk_X1_41 (ly_4 hE) rfl (Nat.le_of_ble_eq_true rfl) (need_x hE hz c3 (by decide) (fun A4 f4 c4 => ?_))
        obtain ⟨n, hn, e3⟩ := c4.2.2.2
        refine r_aload_n dX1_read_48 rfl ?_
        refine r_getR dX1_read_49 fl_X1_15 (ly_4 hE) rfl ?_
        refine r_iload_n dX1_read_52 rfl ?_
        refine r_callV1 dX1_read_53 lk_X1_49 (ly_3 hE) rfl (Nat.le_of_ble_eq_true rfl) (sp_endPart hE hT hp3 c4.2.2.1 e3 ?_)
        refine r_iinc (v := (nI (p + 1))) (loc' := [(1, .int (nI (p + 1))), (0, .ref 4)]) dX1_read_56 rfl ((nI_succ _).symm) (by decide) rfl ?_
        refine r_goto (tgt := 23) dX1_read_59 (by decide) ?_
        refine qG.pick [0, 1] rfl ?_
        exact rest hpt ((((fr.tr f2.cg).tr f3.cg).tr f4.cg).tr cg23) c4.e23
      · rw [e1] at hI
        have pv := pzv hz hf (by decide) e1 hv.1
        have hv1 := (tE_le (f := f) hz j).1
        have hlen : (out ++ c).length ≤ j := by rw [List.length_append]; omega
        by_cases h3 : tk f z j = 59
        · rw [pT_5 h1 e1 h3] at hpt
          have hv2 := vl_up hz hf pv.1 (by rw [h3]; decide)
          refine r_iload_n dX1_read_23 rfl ?_
          refine r_iconst (v := 3) dX1_read_24 rfl ?_
          refine r_icmp_ge (tgt := 62) dX1_read_25 (by decide) (fun hqz => absurd hqz (nI_ge hp3 (by decide))) (fun _ => ?_)
          refine r_aload_n dX1_read_28 rfl ?_
          refine r_bipush (v := 6) dX1_read_29 rfl ?_
          refine r_iload_n dX1_read_31 rfl ?_
          refine r_iadd dX1_read_32 ?_
          refine r_rw (y := nI (6 + p)) (nI_add 6 p) ?_
          refine r_callV1 dX1_read_33 lk_X1_41 (ly_4 hE) rfl (Nat.le_of_ble_eq_true rfl) (need_c hE hz hf cs h1 (fun A2 f2 c2 => ?_))
          refine r_aload_n dX1_read_36 rfl ?_
          refine r_iconst (v := 0) dX1_read_37 rfl ?_
          refine r_iconst (v := 0) dX1_read_38 rfl ?_
          refine r_callV2 dX1_read_39 lk_X1_45 (ly_4 hE) rfl (Nat.le_of_ble_eq_true rfl) (hI A2 L _ c2 (fun A3 f3 q3 => ?_))
          have c3 : CS A3 f z T j (out ++ c) := q3
          refine r_aload_n dX1_read_42 rfl ?_
          refine r_bipush (v := 59) dX1_read_43 rfl ?_
          refine r_callV1 dX1_read_45 lk_X1_41 (ly_4 hE) rfl (Nat.le_of_ble_eq_true rfl) (need_c hE hz hf c3 h3 (fun A4 f4 c4 => ?_))
          refine r_aload_n dX1_read_48 rfl ?_
          refine r_getR dX1_read_49 fl_X1_15 (ly_4 hE) rfl ?_
          refine r_iload_n dX1_read_52 rfl ?_
          refine r_callV1 dX1_read_53 lk_X1_49 (ly_3 hE) rfl (Nat.le_of_ble_eq_true rfl) (sp_endPart hE hT hp3 c4.2.2.1 c4.2.2.2.1 ?_)
          refine r_iinc (v := (nI (p + 1))) (loc' := [(1, .int (nI (p + 1))), (0, .ref 4)]) dX1_read_56 rfl ((nI_succ _).symm) (by decide) rfl ?_
          refine r_goto (tgt := 23) dX1_read_59 (by decide) ?_
          refine qG.pick [0, 1] rfl ?_
          have en2 := (((en.cf (f2.1 23 (by decide))).cf (f3.1 23 (by decide))).cf (f4.1 23 (by decide))).put (x := (out ++ c).length)
          rw [hes] at en2
          exact ih (p + 1) (j + 1) (out ++ c) (es ++ [(out ++ c).length]) _ (by omega) (by rw [List.length_append, List.length_singleton]; omega) hv2.1 (by omega) hpt ((((fr.tr f2.cg).tr f3.cg).tr f4.cg).tr cg23) c4.e23 en2
        · rw [pT_4 h1 e1 h3] at hpt
          refine r_iload_n dX1_read_23 rfl ?_
          refine r_iconst (v := 3) dX1_read_24 rfl ?_
          refine r_icmp_ge (tgt := 62) dX1_read_25 (by decide) (fun hqz => absurd hqz (nI_ge hp3 (by decide))) (fun _ => ?_)
          refine r_aload_n dX1_read_28 rfl ?_
          refine r_bipush (v := 6) dX1_read_29 rfl ?_
          refine r_iload_n dX1_read_31 rfl ?_
          refine r_iadd dX1_read_32 ?_
          refine r_rw (y := nI (6 + p)) (nI_add 6 p) ?_
          refine r_callV1 dX1_read_33 lk_X1_41 (ly_4 hE) rfl (Nat.le_of_ble_eq_true rfl) (need_c hE hz hf cs h1 (fun A2 f2 c2 => ?_))
          refine r_aload_n dX1_read_36 rfl ?_
          refine r_iconst (v := 0) dX1_read_37 rfl ?_
          refine r_iconst (v := 0) dX1_read_38 rfl ?_
          refine r_callV2 dX1_read_39 lk_X1_45 (ly_4 hE) rfl (Nat.le_of_ble_eq_true rfl) (hI A2 L _ c2 (fun A3 f3 q3 => ?_))
          have c3 : CS A3 f z T j (out ++ c) := q3
          refine r_aload_n dX1_read_42 rfl ?_
          refine r_bipush (v := 59) dX1_read_43 rfl ?_
          refine r_callV1 dX1_read_45 lk_X1_41 (ly_4 hE) rfl (Nat.le_of_ble_eq_true rfl) (need_n hE c3 (by omega) h3 (fun A4 f4 c4 => ?_))
          obtain ⟨n, hn, e3⟩ := c4.2.2.2
          refine r_aload_n dX1_read_48 rfl ?_
          refine r_getR dX1_read_49 fl_X1_15 (ly_4 hE) rfl ?_
          refine r_iload_n dX1_read_52 rfl ?_
          refine r_callV1 dX1_read_53 lk_X1_49 (ly_3 hE) rfl (Nat.le_of_ble_eq_true rfl) (sp_endPart hE hT hp3 c4.2.2.1 e3 ?_)
          refine r_iinc (v := (nI (p + 1))) (loc' := [(1, .int (nI (p + 1))), (0, .ref 4)]) dX1_read_56 rfl ((nI_succ _).symm) (by decide) rfl ?_
          refine r_goto (tgt := 23) dX1_read_59 (by decide) ?_
          refine qG.pick [0, 1] rfl ?_
          exact rest hpt ((((fr.tr f2.cg).tr f3.cg).tr f4.cg).tr cg23) c4.e23
    · rw [pT_2 h1] at hpt
      refine r_iload_n dX1_read_23 rfl ?_
      refine r_iconst (v := 3) dX1_read_24 rfl ?_
      refine r_icmp_ge (tgt := 62) dX1_read_25 (by decide) (fun hqz => absurd hqz (nI_ge hp3 (by decide))) (fun _ => ?_)
      refine r_aload_n dX1_read_28 rfl ?_
      refine r_bipush (v := 6) dX1_read_29 rfl ?_
      refine r_iload_n dX1_read_31 rfl ?_
      refine r_iadd dX1_read_32 ?_
      refine r_rw (y := nI (6 + p)) (nI_add 6 p) ?_
      refine r_callV1 dX1_read_33 lk_X1_41 (ly_4 hE) rfl (Nat.le_of_ble_eq_true rfl) (need_n hE cs (by omega) h1 (fun A2 f2 c2 => ?_))
      refine r_aload_n dX1_read_36 rfl ?_
      refine r_iconst (v := 0) dX1_read_37 rfl ?_
      refine r_iconst (v := 0) dX1_read_38 rfl ?_
      refine r_callV2 dX1_read_39 lk_X1_45 (ly_4 hE) rfl (Nat.le_of_ble_eq_true rfl) (chain0_x hE hz hT c2 (fun A3 f3 c3 => ?_))
      refine r_aload_n dX1_read_42 rfl ?_
      refine r_bipush (v := 59) dX1_read_43 rfl ?_
      refine r_callV1 dX1_read_45 lk_X1_41 (ly_4 hE) rfl (Nat.le_of_ble_eq_true rfl) (need_x hE hz c3 (by decide) (fun A4 f4 c4 => ?_))
      obtain ⟨n, hn, e3⟩ := c4.2.2.2
      refine r_aload_n dX1_read_48 rfl ?_
      refine r_getR dX1_read_49 fl_X1_15 (ly_4 hE) rfl ?_
      refine r_iload_n dX1_read_52 rfl ?_
      refine r_callV1 dX1_read_53 lk_X1_49 (ly_3 hE) rfl (Nat.le_of_ble_eq_true rfl) (sp_endPart hE hT hp3 c4.2.2.1 e3 ?_)
      refine r_iinc (v := (nI (p + 1))) (loc' := [(1, .int (nI (p + 1))), (0, .ref 4)]) dX1_read_56 rfl ((nI_succ _).symm) (by decide) rfl ?_
      refine r_goto (tgt := 23) dX1_read_59 (by decide) ?_
      refine qG.pick [0, 1] rfl ?_
      exact rest hpt ((((fr.tr f2.cg).tr f3.cg).tr f4.cg).tr cg23) c4.e23
set_option maxRecDepth 100000 in
set_option maxHeartbeats 1000000 in
theorem sp_read (hE : hC E) (hz : z ≤ 160) (hf : ∀ j, j < z → ∃ b, b < 256 ∧ f j = nI b) (hT : T < 6) {F : Nat} (hF : 2600 ≤ F) (h2 : A 4 2 = nI z) (h25 : ∀ j, j < z → A 25 j = f j) (h4 : A 3 4 = nI T) (hx : ∀ A' j, pT (tk f z) (am f z) F 3 0 0 [] [] = .inl j → CG T A A' → A' 4 2 = 0 → Ph (some (.int (nI (tS f z j)))) A' L) (hok : ∀ A' out es, pT (tk f z) (am f z) F 3 0 0 [] [] = .inr (out, es) → CG T A A' → A' 4 2 = 0 → (∀ j, j < out.length → A' 22 (160 * T + j) = enc (out.getD j 0)) → EN A' 23 T es → Ph (some (.int (-1))) A' L) : qC E mm_X1_read (d + 90) [.ref 4] A L Ph := by
  refine qC.enter (by decide) (Nat.le_of_ble_eq_true rfl) ?_
  refine r_aload_n dX1_read_0 rfl ?_
  refine r_iconst (v := 0) dX1_read_1 rfl ?_
  refine r_putI dX1_read_2 fl_X1_27 fp_1_3 (ly_4 hE) rfl rfl rfl ?_
  refine r_aload_n dX1_read_5 rfl ?_
  refine r_iconst (v := (-1)) dX1_read_6 rfl ?_
  refine r_putI dX1_read_7 fl_X1_30 fp_1_7 (ly_4 hE) rfl rfl rfl ?_
  refine r_aload_n dX1_read_10 rfl ?_
  refine r_getR dX1_read_11 fl_X1_15 (ly_4 hE) rfl ?_
  refine r_callV0 dX1_read_14 lk_X1_33 (ly_3 hE) rfl (Nat.le_of_ble_eq_true rfl) (sp_begin5 hE ?_)
  obtain ⟨A1, eA1⟩ : ∃ A1, s2 (s2 (s2 A 4 3 0) 4 7 (-1)) 3 3 0 = A1 := ⟨_, rfl⟩
  rw [eA1]
  have g4 : ∀ j, j ≠ 3 → j ≠ 7 → A1 4 j = A 4 j := fun j a b => by rw [← eA1, s2_ne (by decide), s2_nj (fun _ => b), s2_nj (fun _ => a)]
  have g : CG T A A1 := by rw [← eA1]; exact ⟨((Fr.s2 (by decide)).tr (Fr.s2 (by decide))).tr (Fr.s2 (by decide)), fun j _ => by rw [s2_ne (by decide), s2_ne (by decide), s2_ne (by decide)], fun j _ => by rw [s2_ne (by decide), s2_ne (by decide), s2_ne (by decide)], by rw [s2_nj (fun _ => by decide), s2_ne (by decide), s2_ne (by decide)]⟩
  refine r_aload_n dX1_read_17 rfl ?_
  refine r_callV0 dX1_read_18 lk_X1_38 (ly_4 hE) rfl (Nat.le_of_ble_eq_true rfl) (sp_advance (i := 0) hE hz hf ((g4 2 (by decide) (by decide)).trans h2) (fun j hj => by rw [g.1 25 (by decide)]; exact h25 j hj) (by rw [← eA1, s2_ne (by decide), s2_nj (fun _ => by decide), s2_same]; rfl) (fun A2 f2 c2 => ?_))
  refine r_iconst (v := 0) dX1_read_21 rfl ?_
  refine r_istore_n (loc' := [(1, .int 0), (0, .ref 4)]) dX1_read_22 (by decide) rfl ?_
  refine qG.pick [0, 1] rfl ?_
  refine rd_loop hE hz hf hT hF hx hok 3 0 0 [] [] A2 (by decide) rfl (Nat.zero_le _) (Nat.le_refl _) rfl (g.tr (f2.cf (by decide)).cg) ⟨c2, ?_, ?_, ?_, fun j hj => absurd hj (Nat.not_lt_zero _)⟩ (fun q hq => absurd hq (Nat.not_lt_zero _))
  · rw [f2.2 7 (by decide), ← eA1, s2_ne (by decide), s2_same]
  · rw [f2.1 3 (by decide), g.2.2.2]; exact h4
  · rw [f2.1 3 (by decide), ← eA1, s2_same]; rfl
end CTX
