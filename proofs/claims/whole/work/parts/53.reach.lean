/-! what the class reads off the spread -/
theorem i_nlt {a b : Int32} (h : ¬ a < b) : b ≤ a := by rw [i_le]; rw [i_lt] at h; omega
def farN (S : mA) (p a : Nat) : Nat := (farP S p (nI a)).toNatClampNeg
theorem farN_ok {S : mA} {T n z p : Nat} (hW : WfS S T n z) (hp : p < n) (a : Nat) : farN S p a ≤ 40 ∧ farP S p (nI a) = nI (farN S p a) := by
  obtain ⟨j, hj, e⟩ := far_ok hW hp (nI a)
  unfold farN
  rw [e, nI_clamp (by omega)]
  exact ⟨hj, rfl⟩
def lsN (x : Nat → Nat) : Nat → Nat
  | 0 => 100
  | i + 1 => if x i < lsN x i then x i else lsN x i
def moN (x : Nat → Nat) : Nat → Nat
  | 0 => 0
  | i + 1 => if moN x i < x i then x i else moN x i
theorem lsN_ok {x : Nat → Nat} : ∀ i, (∀ j, j < i → x j < 100) → lsN x i ≤ 100 ∧ (0 < i → ∃ j, j < i ∧ lsN x i = x j) ∧ ∀ j, j < i → lsN x i ≤ x j := by
  intro i
  induction i with
  | zero => intro _; exact ⟨Nat.le_refl _, fun h => absurd h (Nat.lt_irrefl _), fun j hj => absurd hj (Nat.not_lt_zero _)⟩
  | succ i ih =>
    intro hx
    obtain ⟨h1, h2, h3⟩ := ih (fun j hj => hx j (by omega))
    have hxi := hx i (by omega)
    rw [lsN]
    by_cases q : x i < lsN x i
    · rw [if_pos q]
      refine ⟨by omega, fun _ => ⟨i, by omega, rfl⟩, fun j hj => ?_⟩
      rcases Nat.lt_or_ge j i with z | z
      · have := h3 j z; omega
      · rw [show j = i by omega]; exact Nat.le_refl _
    · rw [if_neg q]
      refine ⟨h1, fun _ => ?_, fun j hj => ?_⟩
      · rcases Nat.eq_zero_or_pos i with z | z
        · subst z
          rw [lsN] at q
          omega
        · obtain ⟨j, hj, e⟩ := h2 z
          exact ⟨j, by omega, e⟩
      · rcases Nat.lt_or_ge j i with z | z
        · exact h3 j z
        · rw [show j = i by omega]; omega
theorem moN_ok {x : Nat → Nat} : ∀ i, (moN x i = 0 ∨ ∃ j, j < i ∧ moN x i = x j) ∧ ∀ j, j < i → x j ≤ moN x i := by
  intro i
  induction i with
  | zero => exact ⟨Or.inl rfl, fun j hj => absurd hj (Nat.not_lt_zero _)⟩
  | succ i ih =>
    obtain ⟨h2, h3⟩ := ih
    rw [moN]
    by_cases q : moN x i < x i
    · rw [if_pos q]
      refine ⟨Or.inr ⟨i, by omega, rfl⟩, fun j hj => ?_⟩
      rcases Nat.lt_or_ge j i with z | z
      · have := h3 j z; omega
      · rw [show j = i by omega]; exact Nat.le_refl _
    · rw [if_neg q]
      refine ⟨?_, fun j hj => ?_⟩
      · rcases h2 with z | ⟨j, hj, e⟩
        · exact Or.inl z
        · exact Or.inr ⟨j, by omega, e⟩
      · rcases Nat.lt_or_ge j i with z | z
        · exact h3 j z
        · rw [show j = i by omega]; omega
theorem moN_le {x : Nat → Nat} {m : Nat} (hx : ∀ j, x j ≤ m) (i : Nat) : moN x i ≤ m := by
  rcases (moN_ok (x := x) i).1 with e | ⟨j, _, e⟩
  · rw [e]; exact Nat.zero_le _
  · rw [e]; exact hx j
theorem mn_nI {a b : Nat} (ha : a < 2 ^ 31) (hb : b < 2 ^ 31) : (if nI a < nI b then nI a else nI b) = nI (if a < b then a else b) := by
  by_cases q : a < b
  · rw [if_pos q, if_pos (nI_lt q hb)]
  · rw [if_neg q, if_neg (i_nle (nI_le (by omega) ha))]
theorem mx_nI {a b : Nat} (ha : a < 2 ^ 31) (hb : b < 2 ^ 31) : (if nI a < nI b then nI b else nI a) = nI (if a < b then b else a) := by
  by_cases q : a < b
  · rw [if_pos q, if_pos (nI_lt q hb)]
  · rw [if_neg q, if_neg (i_nle (nI_le (by omega) ha))]
theorem rt_arith {r u w m R : Nat} (h : r + u * (10 * m + w + 1) = R) : r + (w + 1) * u + u * 10 * m = R := by
  rw [← h, Nat.add_assoc (10 * m) w 1, Nat.mul_add, ← Nat.mul_assoc, Nat.mul_comm u (w + 1)]
  omega
theorem ln_0' {K : Nat} (h : ln K = 0) : K = 0 := by
  rcases k_cases K with e | ⟨M, w, hw, e, _⟩
  · exact e
  · rw [e, ln_s hw] at h; omega
section RCH2
variable {E : mE} {d : Nat} {A S : mA} {L : mJ} {Ph : mP} {T n z p sz : Nat} {ks : Nat → Nat}
set_option maxRecDepth 100000 in
set_option maxHeartbeats 1000000 in
theorem wto_t (hE : hC E) {a : Nat} (ha : a < 100) (h : Ph (some (.int (A 28 a))) A L) : qC E mm_X0_wordsTo (d + 1) [.ref 6, .int (nI a)] A L Ph := by
  refine qC.enter (by decide) (Nat.le_of_ble_eq_true rfl) ?_
  refine r_iload_n dX0_wordsTo_0 rfl ?_
  refine r_bipush (v := 100) dX0_wordsTo_1 rfl ?_
  refine r_callN2 dX0_wordsTo_3 lk_X0_64 (Nat.le_of_ble_eq_true rfl) (win_t (lim := 100) rfl (by decide) ha ?_)
  refine r_if_eq (tgt := 18) dX0_wordsTo_6 (by decide) (fun hqz => absurd hqz (by decide)) (fun _ => ?_)
  refine r_aload_n dX0_wordsTo_9 rfl ?_
  refine r_getR dX0_wordsTo_10 fl_X0_15 (ly_6 hE) rfl ?_
  refine r_iload_n dX0_wordsTo_13 rfl ?_
  refine r_ialdN dX0_wordsTo_14 (ly_28 hE) (by omega) (by decide) ?_
  refine r_goto (tgt := 19) dX0_wordsTo_15 (by decide) ?_
  refine r_ireturn dX0_wordsTo_19 rfl rfl ?_
  exact h
set_option maxRecDepth 100000 in
set_option maxHeartbeats 1000000 in
theorem wto_f (hE : hC E) (h : Ph (some (.int (-1))) A L) : qC E mm_X0_wordsTo (d + 1) [.ref 6, .int (-1)] A L Ph := by
  refine qC.enter (by decide) (Nat.le_of_ble_eq_true rfl) ?_
  refine r_iload_n dX0_wordsTo_0 rfl ?_
  refine r_bipush (v := 100) dX0_wordsTo_1 rfl ?_
  refine r_callN2 dX0_wordsTo_3 lk_X0_64 (Nat.le_of_ble_eq_true rfl) (win_f 100 rfl (by decide) (fun j hj e => nI_nm1 (by omega) e.symm) ?_)
  refine r_if_eq (tgt := 18) dX0_wordsTo_6 (by decide) (fun _ => ?_) (fun hqz => absurd (by decide) hqz)
  refine r_iconst (v := (-1)) dX0_wordsTo_18 rfl ?_
  refine r_ireturn dX0_wordsTo_19 rfl rfl ?_
  exact h
set_option maxRecDepth 100000 in
set_option maxHeartbeats 1000000 in
theorem first_loop {kv : Int32} : ∀ (k i : Nat) (A : mA), i + k = sz → CE E A S T (rF S) (kdP S p) (nrP S p) → RS A S p sz ks → (∀ j, j < i → ¬ kv ≤ farP S p (nI (eP S p (ks j)))) → (∀ A' j, FrT A A' → j < sz → kv ≤ farP S p (nI (eP S p (ks j))) → (∀ i, i < j → ¬ kv ≤ farP S p (nI (eP S p (ks i)))) → Ph (some (.int (nI (eP S p (ks j))))) A' L) → (∀ A', FrT A A' → (∀ j, j < sz → ¬ kv ≤ farP S p (nI (eP S p (ks j)))) → Ph (some (.int (-1))) A' L) → qG E mm_X0_first (d + 3) 2 [(3, .int (nI i)), (0, .ref 6), (1, .ref 5), (2, .int kv)] [] A L Ph := by
  intro k
  induction k with
  | zero =>
    intro i A hi hc hrs hf h1 h0
    have hE := hc.1
    have hs := hrs.1.2.1.2.1
    have hi : i = sz := by omega
    subst hi
    clear h1
    refine r_iload_n dX0_first_2 rfl ?_
    refine r_aload_n dX0_first_3 rfl ?_
    refine r_getI dX0_first_4 fl_X0_46 (ly_6 hE) rfl ?_
    refine r_rw (y := nI i) hrs.1.1 ?_
    refine r_icmp_ge (tgt := 43) dX0_first_7 (by decide) (fun _ => ?_) (fun hqz => absurd (nI_le (Nat.le_refl _) (by omega)) hqz)
    refine r_iconst (v := (-1)) dX0_first_43 rfl ?_
    refine r_ireturn dX0_first_44 rfl rfl ?_
    exact h0 A FrT.rf hf
  | succ k ih =>
    intro i A hi hc hrs hf h1 h0
    have hE := hc.1
    have hs := hrs.1.2.1.2.1
    refine r_iload_n dX0_first_2 rfl ?_
    refine r_aload_n dX0_first_3 rfl ?_
    refine r_getI dX0_first_4 fl_X0_46 (ly_6 hE) rfl ?_
    refine r_rw (y := nI sz) hrs.1.1 ?_
    refine r_icmp_ge (tgt := 43) dX0_first_7 (by decide) (fun hqz => absurd hqz (nI_ge (show i < sz by omega) (by omega))) (fun _ => ?_)
    refine r_iload_n dX0_first_10 rfl ?_
    refine r_bipush (v := 100) dX0_first_11 rfl ?_
    refine r_icmp_ge (tgt := 43) dX0_first_13 (by decide) (fun hqz => absurd hqz (nI_ge (show i < 100 by omega) (by decide))) (fun _ => ?_)
    refine r_aload_n dX0_first_16 rfl ?_
    refine r_aload_n dX0_first_17 rfl ?_
    refine r_getR dX0_first_18 fl_X0_9 (ly_6 hE) rfl ?_
    refine r_iload_n dX0_first_21 rfl ?_
    refine r_ialdN dX0_first_22 (ly_27 hE) (by omega) (by decide) ?_
    refine r_rw (y := nI (eP S p (ks i))) (hrs.1.2.2.1 i (by omega)) ?_
    refine r_callV1 dX0_first_23 lk_X0_68 (ly_5 hE) rfl (Nat.le_of_ble_eq_true rfl) (sp_X4_far hc (fun A1 f1 => ?_))
    refine r_iload_n dX0_first_26 rfl ?_
    refine r_icmp_lt (tgt := 37) dX0_first_27 (by decide) (fun b27 => ?_) (fun b27 => ?_)
    · refine r_iinc (v := (nI (i + 1))) (loc' := [(3, .int (nI (i + 1))), (0, .ref 6), (1, .ref 5), (2, .int kv)]) dX0_first_37 rfl ((nI_succ _).symm) (by decide) rfl ?_
      refine r_goto (tgt := 2) dX0_first_40 (by decide) ?_
      refine qG.pick [0, 1, 2, 3] rfl ?_
      refine ih (i + 1) A1 (by omega) (hc.fr f1) (hrs.t f1.t) (fun j hj => ?_) (fun A' j f => h1 A' j (f1.tr f)) (fun A' f => h0 A' (f1.tr f))
      rcases Nat.lt_or_ge j i with q | q
      · exact hf j q
      · rw [show j = i by omega]
        exact fun q => i_nle q b27
    · refine r_aload_n dX0_first_30 rfl ?_
      refine r_getR dX0_first_31 fl_X0_9 (ly_6 hE) rfl ?_
      refine r_iload_n dX0_first_34 rfl ?_
      refine r_ialdN dX0_first_35 (ly_27 hE) (by omega) (by decide) ?_
      refine r_rw (y := nI (eP S p (ks i))) ((hrs.t f1.t).1.2.2.1 i (by omega)) ?_
      refine r_ireturn dX0_first_36 rfl rfl ?_
      exact h1 A1 i f1 (by omega) (i_nlt b27) hf
set_option maxRecDepth 100000 in
set_option maxHeartbeats 1000000 in
theorem sp_firstR {kv : Int32} (hc : CE E A S T (rF S) (kdP S p) (nrP S p)) (hrs : RS A S p sz ks) (h1 : ∀ A' j, FrT A A' → j < sz → kv ≤ farP S p (nI (eP S p (ks j))) → (∀ i, i < j → ¬ kv ≤ farP S p (nI (eP S p (ks i)))) → Ph (some (.int (nI (eP S p (ks j))))) A' L) (h0 : ∀ A', FrT A A' → (∀ j, j < sz → ¬ kv ≤ farP S p (nI (eP S p (ks j)))) → Ph (some (.int (-1))) A' L) : qC E mm_X0_first (d + 3) [.ref 6, .ref 5, .int kv] A L Ph := by
  refine qC.enter (by decide) (Nat.le_of_ble_eq_true rfl) ?_
  refine r_iconst (v := 0) dX0_first_0 rfl ?_
  refine r_istore_n (loc' := [(3, .int 0), (0, .ref 6), (1, .ref 5), (2, .int kv)]) dX0_first_1 (by decide) rfl ?_
  refine qG.pick [0, 1, 2, 3] rfl ?_
  exact first_loop sz 0 A (by omega) hc hrs (fun j hj => absurd hj (Nat.not_lt_zero _)) h1 h0
set_option maxRecDepth 100000 in
set_option maxHeartbeats 1000000 in
theorem rowto_loop (hE : hC E) (hW : WfS S T n z) (hp : p < n) (hrs : RS A S p sz ks) {len R : Nat} {v : Int32} (hlen : len ≤ 9) (h : Ph (some (.int (nI R))) A L) : ∀ (k i j r : Nat), i + k = len → j < sz → ln (ks j) = k → r + 10 ^ i * rw10 (ks j) = R → qG E mm_X0_rowTo (d + 2) 30 [(6, .int (nI i)), (5, .int (nI (eP S p (ks j)))), (4, .int (nI (10 ^ i))), (3, .int (nI r)), (2, .int (nI len)), (0, .ref 6), (1, .int v)] [] A L Ph := by
  intro k
  induction k with
  | zero =>
    intro i j r hi hj hl hr
    rw [ln_0' hl, rw10_0] at hr
    have hr : r = R := by omega
    have hi : i = len := by omega
    subst hr
    subst hi
    refine r_iload dX0_rowTo_30 rfl ?_
    refine r_iload_n dX0_rowTo_32 rfl ?_
    refine r_icmp_ge (tgt := 83) dX0_rowTo_33 (by decide) (fun _ => ?_) (fun hqz => absurd (nI_le (Nat.le_refl _) (by omega)) hqz)
    refine r_iload_n dX0_rowTo_83 rfl ?_
    refine r_ireturn dX0_rowTo_84 rfl rfl ?_
    exact h
  | succ k ih =>
    intro i j r hi hj hl hr
    have hj0 : 0 < j := by
      rcases Nat.eq_zero_or_pos j with q | q
      · rw [q, hrs.1.2.1.2.2, ln_0] at hl; omega
      · exact q
    obtain ⟨j', w, hj', hw, ek, ebw, efr⟩ := hrs.1.2.2.2.2.2.2.1 j hj0 hj
    have he := eP_lt hW hp (ks j)
    rw [ek, ln_s hw] at hl
    rw [ek, rw10_s hw] at hr
    refine r_iload dX0_rowTo_30 rfl ?_
    refine r_iload_n dX0_rowTo_32 rfl ?_
    refine r_icmp_ge (tgt := 83) dX0_rowTo_33 (by decide) (fun hqz => absurd hqz (nI_ge (show i < len by omega) (by omega))) (fun _ => ?_)
    refine r_iload dX0_rowTo_36 rfl ?_
    refine r_bipush (v := 100) dX0_rowTo_38 rfl ?_
    refine r_callN2 dX0_rowTo_40 lk_X0_64 (Nat.le_of_ble_eq_true rfl) (win_t (lim := 100) rfl (by decide) he ?_)
    refine r_if_eq (tgt := 83) dX0_rowTo_43 (by decide) (fun hqz => absurd hqz (by decide)) (fun _ => ?_)
    refine r_iload_n dX0_rowTo_46 rfl ?_
    refine r_aload_n dX0_rowTo_47 rfl ?_
    refine r_getR dX0_rowTo_48 fl_X0_21 (ly_6 hE) rfl ?_
    refine r_iload dX0_rowTo_51 rfl ?_
    refine r_ialdN dX0_rowTo_53 (ly_30 hE) (by omega) (by decide) ?_
    refine r_rw (y := nI w) ebw ?_
    refine r_iconst (v := 1) dX0_rowTo_54 rfl ?_
    refine r_iadd dX0_rowTo_55 ?_
    refine r_iload dX0_rowTo_56 rfl ?_
    refine r_imul dX0_rowTo_58 ?_
    refine r_iadd dX0_rowTo_59 ?_
    refine r_rw (y := nI (r + (w + 1) * 10 ^ i)) (show nI r + (nI w + 1) * nI (10 ^ i) = _ by rw [nI_1, pk_mul, nI_add]) ?_
    refine r_istore_n (loc' := [(3, .int (nI (r + (w + 1) * 10 ^ i))), (6, .int (nI i)), (5, .int (nI (eP S p (ks j)))), (4, .int (nI (10 ^ i))), (2, .int (nI len)), (0, .ref 6), (1, .int v)]) dX0_rowTo_60 (by decide) rfl ?_
    refine r_iload dX0_rowTo_61 rfl ?_
    refine r_bipush (v := 10) dX0_rowTo_63 rfl ?_
    refine r_imul dX0_rowTo_65 ?_
    refine r_rw (y := nI (10 ^ (i + 1))) (show nI (10 ^ i) * nI 10 = _ by rw [pk_mul, Nat.pow_succ]) ?_
    refine r_istore (loc' := [(4, .int (nI (10 ^ (i + 1)))), (3, .int (nI (r + (w + 1) * 10 ^ i))), (6, .int (nI i)), (5, .int (nI (eP S p (ks j)))), (2, .int (nI len)), (0, .ref 6), (1, .int v)]) dX0_rowTo_66 (by decide) rfl ?_
    refine r_aload_n dX0_rowTo_68 rfl ?_
    refine r_getR dX0_rowTo_69 fl_X0_18 (ly_6 hE) rfl ?_
    refine r_iload dX0_rowTo_72 rfl ?_
    refine r_ialdN dX0_rowTo_74 (ly_29 hE) (by omega) (by decide) ?_
    refine r_rw (y := nI (eP S p (ks j'))) efr ?_
    refine r_istore (loc' := [(5, .int (nI (eP S p (ks j')))), (4, .int (nI (10 ^ (i + 1)))), (3, .int (nI (r + (w + 1) * 10 ^ i))), (6, .int (nI i)), (2, .int (nI len)), (0, .ref 6), (1, .int v)]) dX0_rowTo_75 (by decide) rfl ?_
    refine r_iinc (v := (nI (i + 1))) (loc' := [(6, .int (nI (i + 1))), (5, .int (nI (eP S p (ks j')))), (4, .int (nI (10 ^ (i + 1)))), (3, .int (nI (r + (w + 1) * 10 ^ i))), (2, .int (nI len)), (0, .ref 6), (1, .int v)]) dX0_rowTo_77 rfl ((nI_succ _).symm) (by decide) rfl ?_
    refine r_goto (tgt := 30) dX0_rowTo_80 (by decide) ?_
    refine qG.pick [0, 1, 2, 3, 4, 5, 6] rfl ?_
    exact ih (i + 1) j' (r + (w + 1) * 10 ^ i) (by omega) (by omega) (by omega) (by rw [Nat.pow_succ]; exact rt_arith hr)
set_option maxRecDepth 100000 in
set_option maxHeartbeats 1000000 in
theorem sp_rowTo (hE : hC E) (hW : WfS S T n z) (hp : p < n) (hrs : RS A S p sz ks) {j : Nat} (hj : j < sz) (h : Ph (some (.int (if ln (ks j) ≤ 9 then nI (rw10 (ks j)) else -1))) A L) : qC E mm_X0_rowTo (d + 2) [.ref 6, .int (nI (eP S p (ks j)))] A L Ph := by
  have he := eP_lt hW hp (ks j)
  have hd := hrs.1.2.dep hj he
  have hl := hrs.1.2.ln_le j hj
  have hs := hrs.1.2.1.2.1
  by_cases q : ln (ks j) ≤ 9
  · rw [if_pos q] at h
    refine qC.enter (by decide) (Nat.le_of_ble_eq_true rfl) ?_
    refine r_aload_n dX0_rowTo_0 rfl ?_
    refine r_iload_n dX0_rowTo_1 rfl ?_
    refine r_callV1 dX0_rowTo_2 lk_X0_71 (ly_6 hE) rfl (Nat.le_of_ble_eq_true rfl) (wto_t hE he ?_)
    refine r_rw (y := nI (ln (ks j))) hd ?_
    refine r_istore_n (loc' := [(2, .int (nI (ln (ks j)))), (0, .ref 6), (1, .int (nI (eP S p (ks j))))]) dX0_rowTo_5 (by decide) rfl ?_
    refine r_iload_n dX0_rowTo_6 rfl ?_
    refine r_iconst (v := (-1)) dX0_rowTo_7 rfl ?_
    refine r_icmp_eq (tgt := 17) dX0_rowTo_8 (by decide) (fun hqz => absurd hqz (nI_nm1 (by omega))) (fun _ => ?_)
    refine r_iload_n dX0_rowTo_11 rfl ?_
    refine r_bipush (v := 9) dX0_rowTo_12 rfl ?_
    refine r_icmp_le (tgt := 19) dX0_rowTo_14 (by decide) (fun _ => ?_) (fun hqz => absurd (nI_le (b := 9) q (by decide)) hqz)
    refine r_iconst (v := 0) dX0_rowTo_19 rfl ?_
    refine r_istore_n (loc' := [(3, .int 0), (2, .int (nI (ln (ks j)))), (0, .ref 6), (1, .int (nI (eP S p (ks j))))]) dX0_rowTo_20 (by decide) rfl ?_
    refine r_iconst (v := 1) dX0_rowTo_21 rfl ?_
    refine r_istore (loc' := [(4, .int 1), (3, .int 0), (2, .int (nI (ln (ks j)))), (0, .ref 6), (1, .int (nI (eP S p (ks j))))]) dX0_rowTo_22 (by decide) rfl ?_
    refine r_iload_n dX0_rowTo_24 rfl ?_
    refine r_istore (loc' := [(5, .int (nI (eP S p (ks j)))), (4, .int 1), (3, .int 0), (2, .int (nI (ln (ks j)))), (0, .ref 6), (1, .int (nI (eP S p (ks j))))]) dX0_rowTo_25 (by decide) rfl ?_
    refine r_iconst (v := 0) dX0_rowTo_27 rfl ?_
    refine r_istore (loc' := [(6, .int 0), (5, .int (nI (eP S p (ks j)))), (4, .int 1), (3, .int 0), (2, .int (nI (ln (ks j)))), (0, .ref 6), (1, .int (nI (eP S p (ks j))))]) dX0_rowTo_28 (by decide) rfl ?_
    refine qG.pick [0, 1, 2, 3, 4, 5, 6] rfl ?_
    exact rowto_loop hE hW hp hrs q h (ln (ks j)) 0 j 0 (by omega) hj rfl (by omega)
  · rw [if_neg q] at h
    refine qC.enter (by decide) (Nat.le_of_ble_eq_true rfl) ?_
    refine r_aload_n dX0_rowTo_0 rfl ?_
    refine r_iload_n dX0_rowTo_1 rfl ?_
    refine r_callV1 dX0_rowTo_2 lk_X0_71 (ly_6 hE) rfl (Nat.le_of_ble_eq_true rfl) (wto_t hE he ?_)
    refine r_rw (y := nI (ln (ks j))) hd ?_
    refine r_istore_n (loc' := [(2, .int (nI (ln (ks j)))), (0, .ref 6), (1, .int (nI (eP S p (ks j))))]) dX0_rowTo_5 (by decide) rfl ?_
    refine r_iload_n dX0_rowTo_6 rfl ?_
    refine r_iconst (v := (-1)) dX0_rowTo_7 rfl ?_
    refine r_icmp_eq (tgt := 17) dX0_rowTo_8 (by decide) (fun hqz => absurd hqz (nI_nm1 (by omega))) (fun _ => ?_)
    refine r_iload_n dX0_rowTo_11 rfl ?_
    refine r_bipush (v := 9) dX0_rowTo_12 rfl ?_
    refine r_icmp_le (tgt := 19) dX0_rowTo_14 (by decide) (fun hqz => absurd hqz (nI_ge (a := 9) (by omega) (by omega))) (fun _ => ?_)
    refine r_iconst (v := (-1)) dX0_rowTo_17 rfl ?_
    refine r_ireturn dX0_rowTo_18 rfl rfl ?_
    exact h
set_option maxRecDepth 100000 in
set_option maxHeartbeats 1000000 in
theorem rowTo_f (hE : hC E) (h : Ph (some (.int (-1))) A L) : qC E mm_X0_rowTo (d + 2) [.ref 6, .int (-1)] A L Ph := by
  refine qC.enter (by decide) (Nat.le_of_ble_eq_true rfl) ?_
  refine r_aload_n dX0_rowTo_0 rfl ?_
  refine r_iload_n dX0_rowTo_1 rfl ?_
  refine r_callV1 dX0_rowTo_2 lk_X0_71 (ly_6 hE) rfl (Nat.le_of_ble_eq_true rfl) (wto_f hE ?_)
  refine r_istore_n (loc' := [(2, .int (-1)), (0, .ref 6), (1, .int (-1))]) dX0_rowTo_5 (by decide) rfl ?_
  refine r_iload_n dX0_rowTo_6 rfl ?_
  refine r_iconst (v := (-1)) dX0_rowTo_7 rfl ?_
  refine r_icmp_eq (tgt := 17) dX0_rowTo_8 (by decide) (fun _ => ?_) (fun hqz => absurd (by decide) hqz)
  refine r_iconst (v := (-1)) dX0_rowTo_17 rfl ?_
  refine r_ireturn dX0_rowTo_18 rfl rfl ?_
  exact h
set_option maxRecDepth 100000 in
set_option maxHeartbeats 1000000 in
theorem ls_loop (hE : hC E) (hW : WfS S T n z) (hp : p < n) (hrs : RS A S p sz ks) (h : Ph (some (.int (nI (lsN (fun j => eP S p (ks j)) sz)))) A L) : ∀ (k i : Nat), i + k = sz → qG E mm_X0_least (d + 1) 5 [(2, .int (nI i)), (1, .int (nI (lsN (fun j => eP S p (ks j)) i))), (0, .ref 6)] [] A L Ph := by
  have hs := hrs.1.2.1.2.1
  intro k
  induction k with
  | zero =>
    intro i hi
    have hi : i = sz := by omega
    subst hi
    refine r_iload_n dX0_least_5 rfl ?_
    refine r_aload_n dX0_least_6 rfl ?_
    refine r_getI dX0_least_7 fl_X0_46 (ly_6 hE) rfl ?_
    refine r_rw (y := nI i) hrs.1.1 ?_
    refine r_icmp_ge (tgt := 36) dX0_least_10 (by decide) (fun _ => ?_) (fun hqz => absurd (nI_le (Nat.le_refl _) (by omega)) hqz)
    refine r_iload_n dX0_least_36 rfl ?_
    refine r_ireturn dX0_least_37 rfl rfl ?_
    exact h
  | succ k ih =>
    intro i hi
    have K := ih (i + 1) (by omega)
    rw [lsN] at K
    have hb := (lsN_ok (x := (fun j => eP S p (ks j))) i (fun j _ => eP_lt hW hp (ks j))).1
    have he := eP_lt hW hp (ks i)
    generalize lsN (fun j => eP S p (ks j)) i = m at *
    refine r_iload_n dX0_least_5 rfl ?_
    refine r_aload_n dX0_least_6 rfl ?_
    refine r_getI dX0_least_7 fl_X0_46 (ly_6 hE) rfl ?_
    refine r_rw (y := nI sz) hrs.1.1 ?_
    refine r_icmp_ge (tgt := 36) dX0_least_10 (by decide) (fun hqz => absurd hqz (nI_ge (show i < sz by omega) (by omega))) (fun _ => ?_)
    refine r_iload_n dX0_least_13 rfl ?_
    refine r_bipush (v := 100) dX0_least_14 rfl ?_
    refine r_icmp_ge (tgt := 36) dX0_least_16 (by decide) (fun hqz => absurd hqz (nI_ge (show i < 100 by omega) (by decide))) (fun _ => ?_)
    refine r_iload_n dX0_least_19 rfl ?_
    refine r_aload_n dX0_least_20 rfl ?_
    refine r_getR dX0_least_21 fl_X0_9 (ly_6 hE) rfl ?_
    refine r_iload_n dX0_least_24 rfl ?_
    refine r_ialdN dX0_least_25 (ly_27 hE) (by omega) (by decide) ?_
    refine r_rw (y := nI (eP S p (ks i))) (hrs.1.2.2.1 i (by omega)) ?_
    refine r_mmin dX0_least_26 lmn_X0_74 (Nat.le_of_ble_eq_true rfl) ?_
    refine r_rw (y := nI (if eP S p (ks i) < m then eP S p (ks i) else m)) (mn_nI (by omega) (by omega)) ?_
    refine r_istore_n (loc' := [(1, .int (nI (if eP S p (ks i) < m then eP S p (ks i) else m))), (2, .int (nI i)), (0, .ref 6)]) dX0_least_29 (by decide) rfl ?_
    refine r_iinc (v := (nI (i + 1))) (loc' := [(2, .int (nI (i + 1))), (1, .int (nI (if eP S p (ks i) < m then eP S p (ks i) else m))), (0, .ref 6)]) dX0_least_30 rfl ((nI_succ _).symm) (by decide) rfl ?_
    refine r_goto (tgt := 5) dX0_least_33 (by decide) ?_
    refine qG.pick [0, 1, 2] rfl ?_
    exact K
set_option maxRecDepth 100000 in
set_option maxHeartbeats 1000000 in
theorem sp_X0_least (hE : hC E) (hW : WfS S T n z) (hp : p < n) (hrs : RS A S p sz ks) (h : Ph (some (.int (nI (lsN (fun j => eP S p (ks j)) sz)))) A L) : qC E mm_X0_least (d + 1) [.ref 6] A L Ph := by
  refine qC.enter (by decide) (Nat.le_of_ble_eq_true rfl) ?_
  refine r_bipush (v := 100) dX0_least_0 rfl ?_
  refine r_istore_n (loc' := [(1, .int 100), (0, .ref 6)]) dX0_least_2 (by decide) rfl ?_
  refine r_iconst (v := 0) dX0_least_3 rfl ?_
  refine r_istore_n (loc' := [(2, .int 0), (1, .int 100), (0, .ref 6)]) dX0_least_4 (by decide) rfl ?_
  refine qG.pick [0, 1, 2] rfl ?_
  exact ls_loop hE hW hp hrs h sz 0 (by omega)
set_option maxRecDepth 100000 in
set_option maxHeartbeats 1000000 in
theorem mo_loop (hE : hC E) (hW : WfS S T n z) (hp : p < n) (hrs : RS A S p sz ks) (h : Ph (some (.int (nI (moN (fun j => eP S p (ks j)) sz)))) A L) : ∀ (k i : Nat), i + k = sz → qG E mm_X0_most (d + 1) 4 [(2, .int (nI i)), (1, .int (nI (moN (fun j => eP S p (ks j)) i))), (0, .ref 6)] [] A L Ph := by
  have hs := hrs.1.2.1.2.1
  intro k
  induction k with
  | zero =>
    intro i hi
    have hi : i = sz := by omega
    subst hi
    refine r_iload_n dX0_most_4 rfl ?_
    refine r_aload_n dX0_most_5 rfl ?_
    refine r_getI dX0_most_6 fl_X0_46 (ly_6 hE) rfl ?_
    refine r_rw (y := nI i) hrs.1.1 ?_
    refine r_icmp_ge (tgt := 35) dX0_most_9 (by decide) (fun _ => ?_) (fun hqz => absurd (nI_le (Nat.le_refl _) (by omega)) hqz)
    refine r_iload_n dX0_most_35 rfl ?_
    refine r_ireturn dX0_most_36 rfl rfl ?_
    exact h
  | succ k ih =>
    intro i hi
    have K := ih (i + 1) (by omega)
    rw [moN] at K
    have hb := moN_le (x := (fun j => eP S p (ks j))) (m := 100) (fun j => Nat.le_of_lt (eP_lt hW hp (ks j))) i
    have he := eP_lt hW hp (ks i)
    generalize moN (fun j => eP S p (ks j)) i = m at *
    refine r_iload_n dX0_most_4 rfl ?_
    refine r_aload_n dX0_most_5 rfl ?_
    refine r_getI dX0_most_6 fl_X0_46 (ly_6 hE) rfl ?_
    refine r_rw (y := nI sz) hrs.1.1 ?_
    refine r_icmp_ge (tgt := 35) dX0_most_9 (by decide) (fun hqz => absurd hqz (nI_ge (show i < sz by omega) (by omega))) (fun _ => ?_)
    refine r_iload_n dX0_most_12 rfl ?_
    refine r_bipush (v := 100) dX0_most_13 rfl ?_
    refine r_icmp_ge (tgt := 35) dX0_most_15 (by decide) (fun hqz => absurd hqz (nI_ge (show i < 100 by omega) (by decide))) (fun _ => ?_)
    refine r_iload_n dX0_most_18 rfl ?_
    refine r_aload_n dX0_most_19 rfl ?_
    refine r_getR dX0_most_20 fl_X0_9 (ly_6 hE) rfl ?_
    refine r_iload_n dX0_most_23 rfl ?_
    refine r_ialdN dX0_most_24 (ly_27 hE) (by omega) (by decide) ?_
    refine r_rw (y := nI (eP S p (ks i))) (hrs.1.2.2.1 i (by omega)) ?_
    refine r_mmax dX0_most_25 lmx_X0_79 (Nat.le_of_ble_eq_true rfl) ?_
    refine r_rw (y := nI (if m < eP S p (ks i) then eP S p (ks i) else m)) (mx_nI (by omega) (by omega)) ?_
    refine r_istore_n (loc' := [(1, .int (nI (if m < eP S p (ks i) then eP S p (ks i) else m))), (2, .int (nI i)), (0, .ref 6)]) dX0_most_28 (by decide) rfl ?_
    refine r_iinc (v := (nI (i + 1))) (loc' := [(2, .int (nI (i + 1))), (1, .int (nI (if m < eP S p (ks i) then eP S p (ks i) else m))), (0, .ref 6)]) dX0_most_29 rfl ((nI_succ _).symm) (by decide) rfl ?_
    refine r_goto (tgt := 4) dX0_most_32 (by decide) ?_
    refine qG.pick [0, 1, 2] rfl ?_
    exact K
set_option maxRecDepth 100000 in
set_option maxHeartbeats 1000000 in
theorem sp_X0_most (hE : hC E) (hW : WfS S T n z) (hp : p < n) (hrs : RS A S p sz ks) (h : Ph (some (.int (nI (moN (fun j => eP S p (ks j)) sz)))) A L) : qC E mm_X0_most (d + 1) [.ref 6] A L Ph := by
  refine qC.enter (by decide) (Nat.le_of_ble_eq_true rfl) ?_
  refine r_iconst (v := 0) dX0_most_0 rfl ?_
  refine r_istore_n (loc' := [(1, .int 0), (0, .ref 6)]) dX0_most_1 (by decide) rfl ?_
  refine r_iconst (v := 0) dX0_most_2 rfl ?_
  refine r_istore_n (loc' := [(2, .int 0), (1, .int 0), (0, .ref 6)]) dX0_most_3 (by decide) rfl ?_
  refine qG.pick [0, 1, 2] rfl ?_
  exact mo_loop hE hW hp hrs h sz 0 (by omega)
set_option maxRecDepth 100000 in
set_option maxHeartbeats 1000000 in
theorem fu_loop (hW : WfS S T n z) (hp : p < n) : ∀ (k i : Nat) (A : mA), i + k = sz → CE E A S T (rF S) (kdP S p) (nrP S p) → RS A S p sz ks → (∀ A', FrT A A' → Ph (some (.int (nI (moN (fun j => farN S p (eP S p (ks j))) sz)))) A' L) → qG E mm_X0_furthest (d + 3) 4 [(3, .int (nI i)), (2, .int (nI (moN (fun j => farN S p (eP S p (ks j))) i))), (0, .ref 6), (1, .ref 5)] [] A L Ph := by
  intro k
  induction k with
  | zero =>
    intro i A hi hc hrs h
    have hE := hc.1
    have hs := hrs.1.2.1.2.1
    have hi : i = sz := by omega
    subst hi
    refine r_iload_n dX0_furthest_4 rfl ?_
    refine r_aload_n dX0_furthest_5 rfl ?_
    refine r_getI dX0_furthest_6 fl_X0_46 (ly_6 hE) rfl ?_
    refine r_rw (y := nI i) hrs.1.1 ?_
    refine r_icmp_ge (tgt := 39) dX0_furthest_9 (by decide) (fun _ => ?_) (fun hqz => absurd (nI_le (Nat.le_refl _) (by omega)) hqz)
    refine r_iload_n dX0_furthest_39 rfl ?_
    refine r_ireturn dX0_furthest_40 rfl rfl ?_
    exact h A FrT.rf
  | succ k ih =>
    intro i A hi hc hrs h
    have hE := hc.1
    have hs := hrs.1.2.1.2.1
    have K := ih (i + 1)
    rw [moN] at K
    have hf := farN_ok hW hp (eP S p (ks i))
    have hb := moN_le (x := (fun j => farN S p (eP S p (ks j)))) (m := 40) (fun j => (farN_ok hW hp _).1) i
    generalize moN (fun j => farN S p (eP S p (ks j))) i = m at *
    refine r_iload_n dX0_furthest_4 rfl ?_
    refine r_aload_n dX0_furthest_5 rfl ?_
    refine r_getI dX0_furthest_6 fl_X0_46 (ly_6 hE) rfl ?_
    refine r_rw (y := nI sz) hrs.1.1 ?_
    refine r_icmp_ge (tgt := 39) dX0_furthest_9 (by decide) (fun hqz => absurd hqz (nI_ge (show i < sz by omega) (by omega))) (fun _ => ?_)
    refine r_iload_n dX0_furthest_12 rfl ?_
    refine r_bipush (v := 100) dX0_furthest_13 rfl ?_
    refine r_icmp_ge (tgt := 39) dX0_furthest_15 (by decide) (fun hqz => absurd hqz (nI_ge (show i < 100 by omega) (by decide))) (fun _ => ?_)
    refine r_iload_n dX0_furthest_18 rfl ?_
    refine r_aload_n dX0_furthest_19 rfl ?_
    refine r_aload_n dX0_furthest_20 rfl ?_
    refine r_getR dX0_furthest_21 fl_X0_9 (ly_6 hE) rfl ?_
    refine r_iload_n dX0_furthest_24 rfl ?_
    refine r_ialdN dX0_furthest_25 (ly_27 hE) (by omega) (by decide) ?_
    refine r_rw (y := nI (eP S p (ks i))) (hrs.1.2.2.1 i (by omega)) ?_
    refine r_callV1 dX0_furthest_26 lk_X0_68 (ly_5 hE) rfl (Nat.le_of_ble_eq_true rfl) (sp_X4_far hc (fun A1 f1 => ?_))
    refine r_rw (y := nI (farN S p (eP S p (ks i)))) hf.2 ?_
    refine r_mmax dX0_furthest_29 lmx_X0_79 (Nat.le_of_ble_eq_true rfl) ?_
    refine r_rw (y := nI (if m < farN S p (eP S p (ks i)) then farN S p (eP S p (ks i)) else m)) (mx_nI (by omega) (by omega)) ?_
    refine r_istore_n (loc' := [(2, .int (nI (if m < farN S p (eP S p (ks i)) then farN S p (eP S p (ks i)) else m))), (3, .int (nI i)), (0, .ref 6), (1, .ref 5)]) dX0_furthest_32 (by decide) rfl ?_
    refine r_iinc (v := (nI (i + 1))) (loc' := [(3, .int (nI (i + 1))), (2, .int (nI (if m < farN S p (eP S p (ks i)) then farN S p (eP S p (ks i)) else m))), (0, .ref 6), (1, .ref 5)]) dX0_furthest_33 rfl ((nI_succ _).symm) (by decide) rfl ?_
    refine r_goto (tgt := 4) dX0_furthest_36 (by decide) ?_
    refine qG.pick [0, 1, 2, 3] rfl ?_
    exact K A1 (by omega) (hc.fr f1) (hrs.t f1.t) (fun A' f => h A' (f1.tr f))
set_option maxRecDepth 100000 in
set_option maxHeartbeats 1000000 in
theorem sp_furthestR (hW : WfS S T n z) (hp : p < n) (hc : CE E A S T (rF S) (kdP S p) (nrP S p)) (hrs : RS A S p sz ks) (h : ∀ A', FrT A A' → Ph (some (.int (nI (moN (fun j => farN S p (eP S p (ks j))) sz)))) A' L) : qC E mm_X0_furthest (d + 3) [.ref 6, .ref 5] A L Ph := by
  refine qC.enter (by decide) (Nat.le_of_ble_eq_true rfl) ?_
  refine r_iconst (v := 0) dX0_furthest_0 rfl ?_
  refine r_istore_n (loc' := [(2, .int 0), (0, .ref 6), (1, .ref 5)]) dX0_furthest_1 (by decide) rfl ?_
  refine r_iconst (v := 0) dX0_furthest_2 rfl ?_
  refine r_istore_n (loc' := [(3, .int 0), (2, .int 0), (0, .ref 6), (1, .ref 5)]) dX0_furthest_3 (by decide) rfl ?_
  refine qG.pick [0, 1, 2, 3] rfl ?_
  exact fu_loop hW hp sz 0 A (by omega) hc hrs h
end RCH2
