/-! words; the miles that cannot be had -/
theorem RS.w0 {A S : mA} {p sz : Nat} {ks : Nat → Nat} (h : RS A S p sz ks) : A 28 0 = wwP S p (fun a => a = 0) := by
  rcases h.1.2.2.2.2.2.1 0 (by decide) with ⟨e, q⟩ | ⟨j, hj, e, q⟩
  · rw [e, (wwP_f (h.no (G := fun a => a = 0) (fun i hi => q i hi))).1]
  · rw [q, wwP_t (h.lk (G := fun a => a = 0) hj e (fun i hi z => ?_))]
    have := h.1.2.2.2.2.1 i j (by omega) hj (z.trans e.symm)
    omega
theorem RS.rb {A S : mA} {p sz : Nat} {ks : Nat → Nat} (h : RS A S p sz ks) {a : Nat} : rbP S p a = 1 ↔ ∃ j, j < sz ∧ eP S p (ks j) = a := by
  rw [rbP_1]
  constructor
  · rintro ⟨K, hK⟩
    obtain ⟨j, hj, e, -⟩ := h.2.1 K
    exact ⟨j, hj, e.symm.trans hK⟩
  · rintro ⟨j, _, e⟩
    exact ⟨ks j, e⟩
theorem RS.cnt {A S : mA} {p sz : Nat} {ks : Nat → Nat} (h : RS A S p sz ks) : sm (rbP S p) 100 = sz := by
  rw [← h.1.2.2.2.2.2.2.2]
  apply sm_cong
  intro a ha
  show rbP S p a = nn (A 28 a)
  rcases h.1.2.2.2.2.2.1 a ha with ⟨e, q⟩ | ⟨j, hj, e, q⟩
  · rw [e]
    rcases rbP_01 S p a with z | z
    · exact z
    · obtain ⟨j, hj, e'⟩ := h.rb.mp z
      exact absurd e' (q j hj)
  · rw [h.rb.mpr ⟨j, hj, e⟩, q]
    have hl := h.1.2.ln_le j hj
    have hs := h.1.2.1.2.1
    exact (if_neg (nI_nm1 (by omega))).symm
def lfF (r : Nat → Nat) : Nat → Int32
  | 0 => -1
  | a + 1 => if r a = 1 then (if lfF r a = -1 then nI a else lfF r a) else lfF r a
def lmF (r : Nat → Nat) : Nat → Int32
  | 0 => -1
  | a + 1 => if r a = 1 then nI a else lmF r a
theorem lfF_ok (r : Nat → Nat) : ∀ n, n ≤ 100 → (lfF r n = -1 ∧ ∀ a, a < n → ¬ r a = 1) ∨ ∃ m, m < n ∧ lfF r n = nI m ∧ r m = 1 ∧ ∀ a, a < n → r a = 1 → m ≤ a := by
  intro n
  induction n with
  | zero => intro _; exact Or.inl ⟨rfl, fun a ha => absurd ha (Nat.not_lt_zero _)⟩
  | succ n ih =>
    intro hn
    rw [lfF]
    rcases ih (by omega) with ⟨e, q⟩ | ⟨m, hm, e, q1, q2⟩
    · by_cases hr : r n = 1
      · rw [if_pos hr, if_pos e]
        refine Or.inr ⟨n, by omega, rfl, hr, fun a ha h => ?_⟩
        rcases Nat.lt_or_ge a n with z | z
        · exact absurd h (q a z)
        · exact z
      · rw [if_neg hr]
        refine Or.inl ⟨e, fun a ha => ?_⟩
        rcases Nat.lt_or_ge a n with z | z
        · exact q a z
        · rw [show a = n by omega]; exact hr
    · have hx : (if r n = 1 then (if lfF r n = -1 then nI n else lfF r n) else lfF r n) = nI m := by
        by_cases hr : r n = 1
        · rw [if_pos hr, e, if_neg (nI_nm1 (by omega))]
        · rw [if_neg hr, e]
      rw [hx]
      refine Or.inr ⟨m, by omega, rfl, q1, fun a ha h => ?_⟩
      rcases Nat.lt_or_ge a n with z | z
      · exact q2 a z h
      · omega
theorem lmF_ok (r : Nat → Nat) : ∀ n, n ≤ 100 → (lmF r n = -1 ∧ ∀ a, a < n → ¬ r a = 1) ∨ ∃ m, m < n ∧ lmF r n = nI m ∧ r m = 1 ∧ ∀ a, a < n → r a = 1 → a ≤ m := by
  intro n
  induction n with
  | zero => intro _; exact Or.inl ⟨rfl, fun a ha => absurd ha (Nat.not_lt_zero _)⟩
  | succ n ih =>
    intro hn
    rw [lmF]
    by_cases hr : r n = 1
    · rw [if_pos hr]
      exact Or.inr ⟨n, by omega, rfl, hr, fun a ha h => by omega⟩
    · rw [if_neg hr]
      rcases ih (by omega) with ⟨e, q⟩ | ⟨m, hm, e, q1, q2⟩
      · refine Or.inl ⟨e, fun a ha => ?_⟩
        rcases Nat.lt_or_ge a n with z | z
        · exact q a z
        · rw [show a = n by omega]; exact hr
      · refine Or.inr ⟨m, by omega, e, q1, fun a ha h => ?_⟩
        rcases Nat.lt_or_ge a n with z | z
        · exact q2 a z h
        · rw [show a = n by omega] at h; exact absurd h hr
theorem RS.ls {A S : mA} {T n z p sz : Nat} {ks : Nat → Nat} (hW : WfS S T n z) (hp : p < n) (h : RS A S p sz ks) : nI (lsN (fun j => eP S p (ks j)) sz) = lfF (rbP S p) 100 := by
  obtain ⟨-, h2, h3⟩ := lsN_ok (x := fun j => eP S p (ks j)) sz (fun j _ => eP_lt hW hp (ks j))
  obtain ⟨j, hj, e⟩ := h2 h.1.2.1.1
  have e : lsN (fun j => eP S p (ks j)) sz = eP S p (ks j) := e
  have h0 := h.rb.mpr ⟨j, hj, e.symm⟩
  have hl := eP_lt hW hp (ks j)
  rcases lfF_ok (rbP S p) 100 (Nat.le_refl _) with ⟨_, q⟩ | ⟨m, hm, e2, q1, q2⟩
  · exact absurd h0 (q _ (by rw [e]; exact hl))
  · rw [e2]
    have h4 := q2 _ (by rw [e]; exact hl) h0
    obtain ⟨i, hi, ei⟩ := h.rb.mp q1
    have h5 : lsN (fun j => eP S p (ks j)) sz ≤ eP S p (ks i) := h3 i hi
    congr 1
    omega
theorem RS.mo {A S : mA} {T n z p sz : Nat} {ks : Nat → Nat} (hW : WfS S T n z) (hp : p < n) (h : RS A S p sz ks) : nI (moN (fun j => eP S p (ks j)) sz) = lmF (rbP S p) 100 := by
  obtain ⟨h2, h3⟩ := moN_ok (x := fun j => eP S p (ks j)) sz
  have hz := h.1.2.1.1
  have h2' : ∃ j, j < sz ∧ moN (fun j => eP S p (ks j)) sz = eP S p (ks j) := by
    rcases h2 with e | ⟨j, hj, e⟩
    · have : eP S p (ks 0) ≤ moN (fun j => eP S p (ks j)) sz := h3 0 hz
      exact ⟨0, hz, by omega⟩
    · exact ⟨j, hj, e⟩
  obtain ⟨j, hj, e⟩ := h2'
  have h0 := h.rb.mpr ⟨j, hj, e.symm⟩
  have hl := eP_lt hW hp (ks j)
  rcases lmF_ok (rbP S p) 100 (Nat.le_refl _) with ⟨_, q⟩ | ⟨m, hm, e2, q1, q2⟩
  · exact absurd h0 (q _ (by rw [e]; exact hl))
  · rw [e2]
    have h4 := q2 _ (by rw [e]; exact hl) h0
    obtain ⟨i, hi, ei⟩ := h.rb.mp q1
    have h5 : eP S p (ks i) ≤ moN (fun j => eP S p (ks j)) sz := h3 i hi
    congr 1
    omega
/-- the farthest that is reached, or what was farther before -/
def mxc (r f : Nat → Nat) (c : Nat) : Nat → Nat
  | 0 => c
  | a + 1 => if r a = 1 ∧ mxc r f c a < f a then f a else mxc r f c a
theorem mxc_ok (r f : Nat → Nat) (c : Nat) : ∀ n, c ≤ mxc r f c n ∧ (∀ a, a < n → r a = 1 → f a ≤ mxc r f c n) ∧ (mxc r f c n = c ∨ ∃ a, a < n ∧ r a = 1 ∧ f a = mxc r f c n) := by
  intro n
  induction n with
  | zero => exact ⟨Nat.le_refl _, fun a ha => absurd ha (Nat.not_lt_zero _), Or.inl rfl⟩
  | succ n ih =>
    obtain ⟨h1, h2, h3⟩ := ih
    rw [mxc]
    by_cases q : r n = 1 ∧ mxc r f c n < f n
    · rw [if_pos q]
      refine ⟨by omega, fun a ha hr => ?_, Or.inr ⟨n, by omega, q.1, rfl⟩⟩
      rcases Nat.lt_or_ge a n with z | z
      · have := h2 a z hr; omega
      · rw [show a = n by omega]; exact Nat.le_refl _
    · rw [if_neg q]
      refine ⟨h1, fun a ha hr => ?_, ?_⟩
      · rcases Nat.lt_or_ge a n with z | z
        · exact h2 a z hr
        · rw [show a = n by omega] at hr ⊢
          rcases Nat.lt_or_ge (mxc r f c n) (f n) with y | y
          · exact absurd ⟨hr, y⟩ q
          · exact y
      · rcases h3 with z | ⟨a, ha, z⟩
        · exact Or.inl z
        · exact Or.inr ⟨a, by omega, z⟩
theorem RS.fu {A S : mA} {T n z p sz c : Nat} {ks : Nat → Nat} (hW : WfS S T n z) (hp : p < n) (h : RS A S p sz ks) : (if c < moN (fun j => farN S p (eP S p (ks j))) sz then moN (fun j => farN S p (eP S p (ks j))) sz else c) = mxc (rbP S p) (farN S p) c 100 := by
  obtain ⟨h2, h3⟩ := moN_ok (x := fun j => farN S p (eP S p (ks j))) sz
  obtain ⟨k1, k2, k3⟩ := mxc_ok (rbP S p) (farN S p) c 100
  have u1 : moN (fun j => farN S p (eP S p (ks j))) sz ≤ mxc (rbP S p) (farN S p) c 100 := by
    rcases h2 with e | ⟨j, hj, e⟩
    · omega
    · rw [e]
      exact k2 _ (eP_lt hW hp (ks j)) (h.rb.mpr ⟨j, hj, rfl⟩)
  rcases k3 with e | ⟨a, ha, hr, e⟩
  · rw [if_neg (by omega)]; exact e.symm
  · obtain ⟨j, hj, ej⟩ := h.rb.mp hr
    have u2 : farN S p (eP S p (ks j)) ≤ moN (fun j => farN S p (eP S p (ks j))) sz := h3 j hj
    rw [ej] at u2
    split <;> omega
noncomputable def feF (S : mA) : Nat → Nat
  | 0 => 0
  | p + 1 => mxc (rbP S p) (farN S p) (feF S p) 100
theorem feF_le {S : mA} {T n z : Nat} (hW : WfS S T n z) : ∀ p, p ≤ n → feF S p ≤ 40 := by
  intro p
  induction p with
  | zero => intro _; rw [feF]; exact Nat.zero_le _
  | succ p ih =>
    intro hp
    have h1 := ih (by omega)
    rw [feF]
    rcases (mxc_ok (rbP S p) (farN S p) (feF S p) 100).2.2 with e | ⟨a, _, _, e⟩
    · rw [e]; exact h1
    · rw [← e]; exact (farN_ok hW (show p < n by omega) a).1
/-- the word that clears most -/
def fwI (S : mA) (p w : Nat) : Int32 := farP S p (nI (gP S p (aP S p) w))
def bbF (f : Nat → Int32) : Nat → Nat
  | 0 => 0
  | i + 1 => if f (bbF f i) < f (i + 1) then i + 1 else bbF f i
theorem bbF_le (f : Nat → Int32) : ∀ i, bbF f i ≤ i
  | 0 => Nat.le_refl _
  | i + 1 => by
    have := bbF_le f i
    rw [bbF]
    split <;> omega
theorem mxn {r m f : Nat} (h : nI f ≤ nI m) (hb : m < 2 ^ 31 ∧ f < 2 ^ 31) : ¬ (r = 1 ∧ m < f) := fun z => nI_ge z.2 hb.2 h
theorem mxy {r m f : Nat} (hr : r = 1) (h : ¬ nI f ≤ nI m) (hb : m < 2 ^ 31 ∧ f < 2 ^ 31) : r = 1 ∧ m < f := ⟨hr, by
  rcases Nat.lt_or_ge m f with q | q
  · exact q
  · exact absurd (nI_le q hb.1) h⟩
section RWO
variable {E : mE} {d : Nat} {A S : mA} {L : mJ} {Ph : mP} {T n z p sz : Nat} {ks : Nat → Nat}
set_option maxRecDepth 100000 in
set_option maxHeartbeats 1000000 in
theorem sp_farBehind6 (hc : CE E A S T (rF S) (kdP S p) (nrP S p)) {v : Nat} (h : ∀ A', FrT A A' → Ph (some (.int (fwI S p v))) A' L) : qC E mm_X6_farBehind (d + 4) [.ref 0, .int (nI (aP S p)), .int (nI v)] A L Ph := by
  have hE := hc.1
  refine qC.enter (by decide) (Nat.le_of_ble_eq_true rfl) ?_
  refine r_aload_n dX6_farBehind_0 rfl ?_
  refine r_getR dX6_farBehind_1 fl_X6_38 (ly_0 hE) rfl ?_
  refine r_aload_n dX6_farBehind_4 rfl ?_
  refine r_getR dX6_farBehind_5 fl_X6_38 (ly_0 hE) rfl ?_
  refine r_iload_n dX6_farBehind_8 rfl ?_
  refine r_iload_n dX6_farBehind_9 rfl ?_
  refine r_callV2 dX6_farBehind_10 lk_X6_149 (ly_5 hE) rfl (Nat.le_of_ble_eq_true rfl) (sp_X4_heated hc (fun A1 f1 => ?_))
  refine r_rw (y := nI (gP S p (aP S p) v)) (gP_ok S p _ v).2 ?_
  refine r_callV1 dX6_farBehind_13 lk_X6_138 (ly_5 hE) rfl (Nat.le_of_ble_eq_true rfl) (sp_X4_far (hc.fr f1) (fun A2 f2 => ?_))
  refine r_ireturn dX6_farBehind_16 rfl rfl ?_
  exact h A2 (f1.tr f2)
set_option maxRecDepth 100000 in
set_option maxHeartbeats 1000000 in
theorem bw_loop : ∀ (k i : Nat) (A : mA), i + k = 5 → CE E A S T (rF S) (kdP S p) (nrP S p) → (∀ A', FrT A A' → Ph (some (.int (nI (bbF (fwI S p) 5)))) A' L) → qG E mm_X6_bestWord (d + 5) 4 [(3, .int (nI (i + 1))), (2, .int (nI (bbF (fwI S p) i))), (0, .ref 0), (1, .int (nI (aP S p)))] [] A L Ph := by
  intro k
  induction k with
  | zero =>
    intro i A hi hc h
    have hi : i = 5 := by omega
    subst hi
    refine r_iload_n dX6_bestWord_4 rfl ?_
    refine r_bipush (v := 6) dX6_bestWord_5 rfl ?_
    refine r_icmp_ge (tgt := 33) dX6_bestWord_7 (by decide) (fun _ => ?_) (fun hqz => absurd (nI_le (Nat.le_refl 6) (by decide)) hqz)
    refine r_iload_n dX6_bestWord_33 rfl ?_
    refine r_ireturn dX6_bestWord_34 rfl rfl ?_
    exact h A FrT.rf
  | succ k ih =>
    intro i A hi hc h
    have hE := hc.1
    have hs := ih (i + 1)
    rw [show bbF (fwI S p) (i + 1) = (if fwI S p (bbF (fwI S p) i) < fwI S p (i + 1) then i + 1 else bbF (fwI S p) i) from rfl] at hs
    generalize bbF (fwI S p) i = b at *
    refine r_iload_n dX6_bestWord_4 rfl ?_
    refine r_bipush (v := 6) dX6_bestWord_5 rfl ?_
    refine r_icmp_ge (tgt := 33) dX6_bestWord_7 (by decide) (fun hqz => absurd hqz (nI_ge (show i + 1 < 6 by omega) (by decide))) (fun _ => ?_)
    refine r_aload_n dX6_bestWord_10 rfl ?_
    refine r_iload_n dX6_bestWord_11 rfl ?_
    refine r_iload_n dX6_bestWord_12 rfl ?_
    refine r_callV2 dX6_bestWord_13 lk_X6_233 (ly_0 hE) rfl (Nat.le_of_ble_eq_true rfl) (sp_farBehind6 hc (fun A1 f1 => ?_))
    refine r_aload_n dX6_bestWord_16 rfl ?_
    refine r_iload_n dX6_bestWord_17 rfl ?_
    refine r_iload_n dX6_bestWord_18 rfl ?_
    refine r_callV2 dX6_bestWord_19 lk_X6_233 (ly_0 hE) rfl (Nat.le_of_ble_eq_true rfl) (sp_farBehind6 (hc.fr f1) (fun A2 f2 => ?_))
    refine r_icmp_le (tgt := 27) dX6_bestWord_22 (by decide) (fun b22 => ?_) (fun b22 => ?_)
    · refine r_iinc (v := (nI ((i + 1) + 1))) (loc' := [(3, .int (nI ((i + 1) + 1))), (2, .int (nI b)), (0, .ref 0), (1, .int (nI (aP S p)))]) dX6_bestWord_27 rfl ((nI_succ _).symm) (by decide) rfl ?_
      refine r_goto (tgt := 4) dX6_bestWord_30 (by decide) ?_
      refine qG.pick [0, 1, 2, 3] rfl ?_
      have K := hs A2 (by omega) ((hc.fr f1).fr f2) (fun A' f => h A' ((f1.tr f2).tr f))
      first | (rw [if_neg (i_nle b22)] at K; exact K) | (rw [if_pos (i_ngt b22)] at K; exact K)
    · refine r_iload_n dX6_bestWord_25 rfl ?_
      refine r_istore_n (loc' := [(2, .int (nI (i + 1))), (3, .int (nI (i + 1))), (0, .ref 0), (1, .int (nI (aP S p)))]) dX6_bestWord_26 (by decide) rfl ?_
      refine r_iinc (v := (nI ((i + 1) + 1))) (loc' := [(3, .int (nI ((i + 1) + 1))), (2, .int (nI (i + 1))), (0, .ref 0), (1, .int (nI (aP S p)))]) dX6_bestWord_27 rfl ((nI_succ _).symm) (by decide) rfl ?_
      refine r_goto (tgt := 4) dX6_bestWord_30 (by decide) ?_
      refine qG.pick [0, 1, 2, 3] rfl ?_
      have K := hs A2 (by omega) ((hc.fr f1).fr f2) (fun A' f => h A' ((f1.tr f2).tr f))
      first | (rw [if_neg (i_nle b22)] at K; exact K) | (rw [if_pos (i_ngt b22)] at K; exact K)
set_option maxRecDepth 100000 in
set_option maxHeartbeats 1000000 in
theorem sp_bestWord (hc : CE E A S T (rF S) (kdP S p) (nrP S p)) (h : ∀ A', FrT A A' → Ph (some (.int (nI (bbF (fwI S p) 5)))) A' L) : qC E mm_X6_bestWord (d + 5) [.ref 0, .int (nI (aP S p))] A L Ph := by
  refine qC.enter (by decide) (Nat.le_of_ble_eq_true rfl) ?_
  refine r_iconst (v := 0) dX6_bestWord_0 rfl ?_
  refine r_istore_n (loc' := [(2, .int 0), (0, .ref 0), (1, .int (nI (aP S p)))]) dX6_bestWord_1 (by decide) rfl ?_
  refine r_iconst (v := 1) dX6_bestWord_2 rfl ?_
  refine r_istore_n (loc' := [(3, .int 1), (2, .int 0), (0, .ref 0), (1, .int (nI (aP S p)))]) dX6_bestWord_3 (by decide) rfl ?_
  refine qG.pick [0, 1, 2, 3] rfl ?_
  exact bw_loop 5 0 A (by omega) hc h
set_option maxRecDepth 100000 in
set_option maxHeartbeats 1000000 in
theorem mb_loop4 (hE : hM E) (hfl : FLL A S p) (ha : aP S p < 100) (h : Ph (some (.int (nI (bbF (fwI S p) 5)))) A L) : ∀ (k i : Nat), i + k = 5 → qG E mm_X7_words d 58 [(5, .int (nI (i + 1))), (4, .int (nI (bbF (fwI S p) i))), (3, .int (nI (aP S p))), (0, .ref 38), (1, .int (nI p)), (2, .int 4)] [] A L Ph := by
  intro k
  induction k with
  | zero =>
    intro i hi
    have hi : i = 5 := by omega
    subst hi
    have hb := bbF_le (fwI S p) 5
    generalize bbF (fwI S p) 5 = b at *
    refine r_iload dX7_words_58 rfl ?_
    refine r_bipush (v := 6) dX7_words_60 rfl ?_
    refine r_icmp_ge (tgt := 117) dX7_words_62 (by decide) (fun _ => ?_) (fun hqz => absurd (nI_le (Nat.le_refl 6) (by decide)) hqz)
    refine r_iload_n dX7_words_117 rfl ?_
    refine r_iconst (v := 4) dX7_words_118 rfl ?_
    refine r_icmp_ne (tgt := 127) dX7_words_119 (by decide) (fun hqz => absurd (by decide) hqz) (fun _ => ?_)
    refine r_iload dX7_words_122 rfl ?_
    refine r_goto (tgt := 144) dX7_words_124 (by decide) ?_
    refine r_ireturn dX7_words_144 rfl rfl ?_
    exact h
  | succ k ih =>
    intro i hi
    have hs := ih (i + 1) (by omega)
    have hb := bbF_le (fwI S p) i
    rw [show bbF (fwI S p) (i + 1) = (if fwI S p (bbF (fwI S p) i) < fwI S p (i + 1) then i + 1 else bbF (fwI S p) i) from rfl] at hs
    generalize bbF (fwI S p) i = b at *
    refine r_iload dX7_words_58 rfl ?_
    refine r_bipush (v := 6) dX7_words_60 rfl ?_
    refine r_icmp_ge (tgt := 117) dX7_words_62 (by decide) (fun hqz => absurd hqz (nI_ge (show i + 1 < 6 by omega) (by decide))) (fun _ => ?_)
    refine r_aload_n dX7_words_65 rfl ?_
    refine r_getR dX7_words_66 fl_X7_46 (ly_38 hE) rfl ?_
    refine r_aload_n dX7_words_69 rfl ?_
    refine r_getR dX7_words_70 fl_X7_43 (ly_38 hE) rfl ?_
    refine r_bipush (v := 6) dX7_words_73 rfl ?_
    refine r_iload_n dX7_words_75 rfl ?_
    refine r_imul dX7_words_76 ?_
    refine r_iload dX7_words_77 rfl ?_
    refine r_iadd dX7_words_79 ?_
    refine r_rw (y := nI (6 * aP S p + (i + 1))) (show nI 6 * nI (aP S p) + nI (i + 1) = _ by rw [pk_mul, nI_add]) ?_
    refine r_ialdN dX7_words_80 (ly_47 hE) (by omega) (by decide) ?_
    refine r_rw (y := nI (gP S p (aP S p) (i + 1))) (hfl.2 _ (i + 1) ha (by omega)) ?_
    refine r_ialdN dX7_words_81 (ly_48 hE) ((gP_ok S p _ _).1) (by decide) ?_
    refine r_rw (y := fwI S p (i + 1)) (hfl.1 _ (gP_ok S p _ _).1) ?_
    refine r_aload_n dX7_words_82 rfl ?_
    refine r_getR dX7_words_83 fl_X7_46 (ly_38 hE) rfl ?_
    refine r_aload_n dX7_words_86 rfl ?_
    refine r_getR dX7_words_87 fl_X7_43 (ly_38 hE) rfl ?_
    refine r_bipush (v := 6) dX7_words_90 rfl ?_
    refine r_iload_n dX7_words_92 rfl ?_
    refine r_imul dX7_words_93 ?_
    refine r_iload dX7_words_94 rfl ?_
    refine r_iadd dX7_words_96 ?_
    refine r_rw (y := nI (6 * aP S p + (b))) (show nI 6 * nI (aP S p) + nI (b) = _ by rw [pk_mul, nI_add]) ?_
    refine r_ialdN dX7_words_97 (ly_47 hE) (by omega) (by decide) ?_
    refine r_rw (y := nI (gP S p (aP S p) (b))) (hfl.2 _ (b) ha (by omega)) ?_
    refine r_ialdN dX7_words_98 (ly_48 hE) ((gP_ok S p _ _).1) (by decide) ?_
    refine r_rw (y := fwI S p (b)) (hfl.1 _ (gP_ok S p _ _).1) ?_
    refine r_icmp_le (tgt := 107) dX7_words_99 (by decide) (fun b99 => ?_) (fun b99 => ?_)
    · refine r_iload dX7_words_107 rfl ?_
      refine r_istore (loc' := [(4, .int (nI b)), (5, .int (nI (i + 1))), (3, .int (nI (aP S p))), (0, .ref 38), (1, .int (nI p)), (2, .int 4)]) dX7_words_109 (by decide) rfl ?_
      refine r_iinc (v := (nI ((i + 1) + 1))) (loc' := [(5, .int (nI ((i + 1) + 1))), (4, .int (nI b)), (3, .int (nI (aP S p))), (0, .ref 38), (1, .int (nI p)), (2, .int 4)]) dX7_words_111 rfl ((nI_succ _).symm) (by decide) rfl ?_
      refine r_goto (tgt := 58) dX7_words_114 (by decide) ?_
      refine qG.pick [0, 1, 2, 3, 4, 5] rfl ?_
      first | (rw [if_neg (i_nle b99)] at hs; exact hs) | (rw [if_pos (i_ngt b99)] at hs; exact hs)
    · refine r_iload dX7_words_102 rfl ?_
      refine r_goto (tgt := 109) dX7_words_104 (by decide) ?_
      refine r_istore (loc' := [(4, .int (nI (i + 1))), (5, .int (nI (i + 1))), (3, .int (nI (aP S p))), (0, .ref 38), (1, .int (nI p)), (2, .int 4)]) dX7_words_109 (by decide) rfl ?_
      refine r_iinc (v := (nI ((i + 1) + 1))) (loc' := [(5, .int (nI ((i + 1) + 1))), (4, .int (nI (i + 1))), (3, .int (nI (aP S p))), (0, .ref 38), (1, .int (nI p)), (2, .int 4)]) dX7_words_111 rfl ((nI_succ _).symm) (by decide) rfl ?_
      refine r_goto (tgt := 58) dX7_words_114 (by decide) ?_
      refine qG.pick [0, 1, 2, 3, 4, 5] rfl ?_
      first | (rw [if_neg (i_nle b99)] at hs; exact hs) | (rw [if_pos (i_ngt b99)] at hs; exact hs)
set_option maxRecDepth 100000 in
set_option maxHeartbeats 1000000 in
theorem mb_loop5 (hE : hM E) (hfl : FLL A S p) (ha : aP S p < 100) (h : Ph (some (.int (fwI S p (bbF (fwI S p) 5)))) A L) : ∀ (k i : Nat), i + k = 5 → qG E mm_X7_words d 58 [(5, .int (nI (i + 1))), (4, .int (nI (bbF (fwI S p) i))), (3, .int (nI (aP S p))), (0, .ref 38), (1, .int (nI p)), (2, .int 5)] [] A L Ph := by
  intro k
  induction k with
  | zero =>
    intro i hi
    have hi : i = 5 := by omega
    subst hi
    have hb := bbF_le (fwI S p) 5
    generalize bbF (fwI S p) 5 = b at *
    refine r_iload dX7_words_58 rfl ?_
    refine r_bipush (v := 6) dX7_words_60 rfl ?_
    refine r_icmp_ge (tgt := 117) dX7_words_62 (by decide) (fun _ => ?_) (fun hqz => absurd (nI_le (Nat.le_refl 6) (by decide)) hqz)
    refine r_iload_n dX7_words_117 rfl ?_
    refine r_iconst (v := 4) dX7_words_118 rfl ?_
    refine r_icmp_ne (tgt := 127) dX7_words_119 (by decide) (fun _ => ?_) (fun hqz => absurd hqz (by decide))
    refine r_aload_n dX7_words_127 rfl ?_
    refine r_getR dX7_words_128 fl_X7_46 (ly_38 hE) rfl ?_
    refine r_aload_n dX7_words_131 rfl ?_
    refine r_getR dX7_words_132 fl_X7_43 (ly_38 hE) rfl ?_
    refine r_bipush (v := 6) dX7_words_135 rfl ?_
    refine r_iload_n dX7_words_137 rfl ?_
    refine r_imul dX7_words_138 ?_
    refine r_iload dX7_words_139 rfl ?_
    refine r_iadd dX7_words_141 ?_
    refine r_rw (y := nI (6 * aP S p + (b))) (show nI 6 * nI (aP S p) + nI (b) = _ by rw [pk_mul, nI_add]) ?_
    refine r_ialdN dX7_words_142 (ly_47 hE) (by omega) (by decide) ?_
    refine r_rw (y := nI (gP S p (aP S p) (b))) (hfl.2 _ (b) ha (by omega)) ?_
    refine r_ialdN dX7_words_143 (ly_48 hE) ((gP_ok S p _ _).1) (by decide) ?_
    refine r_rw (y := fwI S p (b)) (hfl.1 _ (gP_ok S p _ _).1) ?_
    refine r_ireturn dX7_words_144 rfl rfl ?_
    exact h
  | succ k ih =>
    intro i hi
    have hs := ih (i + 1) (by omega)
    have hb := bbF_le (fwI S p) i
    rw [show bbF (fwI S p) (i + 1) = (if fwI S p (bbF (fwI S p) i) < fwI S p (i + 1) then i + 1 else bbF (fwI S p) i) from rfl] at hs
    generalize bbF (fwI S p) i = b at *
    refine r_iload dX7_words_58 rfl ?_
    refine r_bipush (v := 6) dX7_words_60 rfl ?_
    refine r_icmp_ge (tgt := 117) dX7_words_62 (by decide) (fun hqz => absurd hqz (nI_ge (show i + 1 < 6 by omega) (by decide))) (fun _ => ?_)
    refine r_aload_n dX7_words_65 rfl ?_
    refine r_getR dX7_words_66 fl_X7_46 (ly_38 hE) rfl ?_
    refine r_aload_n dX7_words_69 rfl ?_
    refine r_getR dX7_words_70 fl_X7_43 (ly_38 hE) rfl ?_
    refine r_bipush (v := 6) dX7_words_73 rfl ?_
    refine r_iload_n dX7_words_75 rfl ?_
    refine r_imul dX7_words_76 ?_
    refine r_iload dX7_words_77 rfl ?_
    refine r_iadd dX7_words_79 ?_
    refine r_rw (y := nI (6 * aP S p + (i + 1))) (show nI 6 * nI (aP S p) + nI (i + 1) = _ by rw [pk_mul, nI_add]) ?_
    refine r_ialdN dX7_words_80 (ly_47 hE) (by omega) (by decide) ?_
    refine r_rw (y := nI (gP S p (aP S p) (i + 1))) (hfl.2 _ (i + 1) ha (by omega)) ?_
    refine r_ialdN dX7_words_81 (ly_48 hE) ((gP_ok S p _ _).1) (by decide) ?_
    refine r_rw (y := fwI S p (i + 1)) (hfl.1 _ (gP_ok S p _ _).1) ?_
    refine r_aload_n dX7_words_82 rfl ?_
    refine r_getR dX7_words_83 fl_X7_46 (ly_38 hE) rfl ?_
    refine r_aload_n dX7_words_86 rfl ?_
    refine r_getR dX7_words_87 fl_X7_43 (ly_38 hE) rfl ?_
    refine r_bipush (v := 6) dX7_words_90 rfl ?_
    refine r_iload_n dX7_words_92 rfl ?_
    refine r_imul dX7_words_93 ?_
    refine r_iload dX7_words_94 rfl ?_
    refine r_iadd dX7_words_96 ?_
    refine r_rw (y := nI (6 * aP S p + (b))) (show nI 6 * nI (aP S p) + nI (b) = _ by rw [pk_mul, nI_add]) ?_
    refine r_ialdN dX7_words_97 (ly_47 hE) (by omega) (by decide) ?_
    refine r_rw (y := nI (gP S p (aP S p) (b))) (hfl.2 _ (b) ha (by omega)) ?_
    refine r_ialdN dX7_words_98 (ly_48 hE) ((gP_ok S p _ _).1) (by decide) ?_
    refine r_rw (y := fwI S p (b)) (hfl.1 _ (gP_ok S p _ _).1) ?_
    refine r_icmp_le (tgt := 107) dX7_words_99 (by decide) (fun b99 => ?_) (fun b99 => ?_)
    · refine r_iload dX7_words_107 rfl ?_
      refine r_istore (loc' := [(4, .int (nI b)), (5, .int (nI (i + 1))), (3, .int (nI (aP S p))), (0, .ref 38), (1, .int (nI p)), (2, .int 5)]) dX7_words_109 (by decide) rfl ?_
      refine r_iinc (v := (nI ((i + 1) + 1))) (loc' := [(5, .int (nI ((i + 1) + 1))), (4, .int (nI b)), (3, .int (nI (aP S p))), (0, .ref 38), (1, .int (nI p)), (2, .int 5)]) dX7_words_111 rfl ((nI_succ _).symm) (by decide) rfl ?_
      refine r_goto (tgt := 58) dX7_words_114 (by decide) ?_
      refine qG.pick [0, 1, 2, 3, 4, 5] rfl ?_
      first | (rw [if_neg (i_nle b99)] at hs; exact hs) | (rw [if_pos (i_ngt b99)] at hs; exact hs)
    · refine r_iload dX7_words_102 rfl ?_
      refine r_goto (tgt := 109) dX7_words_104 (by decide) ?_
      refine r_istore (loc' := [(4, .int (nI (i + 1))), (5, .int (nI (i + 1))), (3, .int (nI (aP S p))), (0, .ref 38), (1, .int (nI p)), (2, .int 5)]) dX7_words_109 (by decide) rfl ?_
      refine r_iinc (v := (nI ((i + 1) + 1))) (loc' := [(5, .int (nI ((i + 1) + 1))), (4, .int (nI (i + 1))), (3, .int (nI (aP S p))), (0, .ref 38), (1, .int (nI p)), (2, .int 5)]) dX7_words_111 rfl ((nI_succ _).symm) (by decide) rfl ?_
      refine r_goto (tgt := 58) dX7_words_114 (by decide) ?_
      refine qG.pick [0, 1, 2, 3, 4, 5] rfl ?_
      first | (rw [if_neg (i_nle b99)] at hs; exact hs) | (rw [if_pos (i_ngt b99)] at hs; exact hs)
set_option maxRecDepth 100000 in
set_option maxHeartbeats 1000000 in
theorem mc_loop1 (hE : hM E) {nw : Int32} (hb : ∀ b, b < 100 → A 50 b = nI (rbP S p b)) (h : Ph (some (.int (nI (sm (rbP S p) 100)))) A L) : ∀ (k a : Nat), a + k = 100 → qG E mm_X7_words d 162 [(7, .int (nI a)), (6, .int (lmF (rbP S p) a)), (5, .int (lfF (rbP S p) a)), (4, .int (nI (sm (rbP S p) a))), (3, .int nw), (0, .ref 38), (1, .int (nI p)), (2, .int 1)] [] A L Ph := by
  intro k
  induction k with
  | zero =>
    intro a ha
    have ha : a = 100 := by omega
    subst ha
    generalize em : lmF (rbP S p) 100 = vm at *
    generalize el : lfF (rbP S p) 100 = vl at *
    generalize esn : sm (rbP S p) 100 = vn at *
    refine r_iload dX7_words_162 rfl ?_
    refine r_bipush (v := 100) dX7_words_164 rfl ?_
    refine r_icmp_ge (tgt := 207) dX7_words_166 (by decide) (fun _ => ?_) (fun hqz => absurd (nI_le (Nat.le_refl 100) (by decide)) hqz)
    refine r_iload_n dX7_words_207 rfl ?_
    refine r_iconst (v := 1) dX7_words_208 rfl ?_
    refine r_icmp_ne (tgt := 217) dX7_words_209 (by decide) (fun hqz => absurd (by decide) hqz) (fun _ => ?_)
    refine r_iload dX7_words_212 rfl ?_
    refine r_goto (tgt := 229) dX7_words_214 (by decide) ?_
    refine r_ireturn dX7_words_229 rfl rfl ?_
    exact h
  | succ k ih =>
    intro a ha
    have ha1 : a < 100 := by omega
    have hs := ih (a + 1) (by omega)
    rw [lmF, lfF, sm] at hs
    rcases rbP_01 S p a with er | er
    · rw [er, if_neg (by decide), if_neg (by decide), Nat.add_zero] at hs
      generalize em : lmF (rbP S p) a = vm at *
      generalize el : lfF (rbP S p) a = vl at *
      generalize esn : sm (rbP S p) a = vn at *
      refine r_iload dX7_words_162 rfl ?_
      refine r_bipush (v := 100) dX7_words_164 rfl ?_
      refine r_icmp_ge (tgt := 207) dX7_words_166 (by decide) (fun hqz => absurd hqz (nI_ge ha1 (by decide))) (fun _ => ?_)
      refine r_aload_n dX7_words_169 rfl ?_
      refine r_getR dX7_words_170 fl_X7_52 (ly_38 hE) rfl ?_
      refine r_iload dX7_words_173 rfl ?_
      refine r_zaldN dX7_words_175 (ly_50 hE) (by omega) (by decide) ?_
      refine r_rw (y := 0) (by rw [hb a ha1, er]; rfl) ?_
      refine r_if_eq (tgt := 201) dX7_words_176 (by decide) (fun _ => ?_) (fun hqz => absurd (by decide) hqz)
      refine r_iinc (v := (nI (a + 1))) (loc' := [(7, .int (nI (a + 1))), (6, .int vm), (5, .int vl), (4, .int (nI vn)), (3, .int nw), (0, .ref 38), (1, .int (nI p)), (2, .int 1)]) dX7_words_201 rfl ((nI_succ _).symm) (by decide) rfl ?_
      refine r_goto (tgt := 162) dX7_words_204 (by decide) ?_
      refine qG.pick [0, 1, 2, 3, 4, 5, 6, 7] rfl ?_
      exact hs
    · rw [er, if_pos rfl, if_pos rfl] at hs
      generalize em : lmF (rbP S p) a = vm at *
      generalize el : lfF (rbP S p) a = vl at *
      generalize esn : sm (rbP S p) a = vn at *
      refine r_iload dX7_words_162 rfl ?_
      refine r_bipush (v := 100) dX7_words_164 rfl ?_
      refine r_icmp_ge (tgt := 207) dX7_words_166 (by decide) (fun hqz => absurd hqz (nI_ge ha1 (by decide))) (fun _ => ?_)
      refine r_aload_n dX7_words_169 rfl ?_
      refine r_getR dX7_words_170 fl_X7_52 (ly_38 hE) rfl ?_
      refine r_iload dX7_words_173 rfl ?_
      refine r_zaldN dX7_words_175 (ly_50 hE) (by omega) (by decide) ?_
      refine r_rw (y := 1) (by rw [hb a ha1, er]; rfl) ?_
      refine r_if_eq (tgt := 201) dX7_words_176 (by decide) (fun hqz => absurd hqz (by decide)) (fun _ => ?_)
      refine r_iinc (v := (nI (vn + 1))) (loc' := [(4, .int (nI (vn + 1))), (7, .int (nI a)), (6, .int vm), (5, .int vl), (3, .int nw), (0, .ref 38), (1, .int (nI p)), (2, .int 1)]) dX7_words_179 rfl ((nI_succ _).symm) (by decide) rfl ?_
      refine r_iload dX7_words_182 rfl ?_
      refine r_iconst (v := (-1)) dX7_words_184 rfl ?_
      refine r_icmp_ne (tgt := 193) dX7_words_185 (by decide) (fun b185 => ?_) (fun b185 => ?_)
      · refine r_iload dX7_words_193 rfl ?_
        refine r_istore (loc' := [(5, .int vl), (4, .int (nI (vn + 1))), (7, .int (nI a)), (6, .int vm), (3, .int nw), (0, .ref 38), (1, .int (nI p)), (2, .int 1)]) dX7_words_195 (by decide) rfl ?_
        refine r_iload dX7_words_197 rfl ?_
        refine r_istore (loc' := [(6, .int (nI a)), (5, .int vl), (4, .int (nI (vn + 1))), (7, .int (nI a)), (3, .int nw), (0, .ref 38), (1, .int (nI p)), (2, .int 1)]) dX7_words_199 (by decide) rfl ?_
        refine r_iinc (v := (nI (a + 1))) (loc' := [(7, .int (nI (a + 1))), (6, .int (nI a)), (5, .int vl), (4, .int (nI (vn + 1))), (3, .int nw), (0, .ref 38), (1, .int (nI p)), (2, .int 1)]) dX7_words_201 rfl ((nI_succ _).symm) (by decide) rfl ?_
        refine r_goto (tgt := 162) dX7_words_204 (by decide) ?_
        refine qG.pick [0, 1, 2, 3, 4, 5, 6, 7] rfl ?_
        first | (rw [if_pos b185] at hs; exact hs) | (rw [if_neg b185] at hs; exact hs)
      · refine r_iload dX7_words_188 rfl ?_
        refine r_goto (tgt := 195) dX7_words_190 (by decide) ?_
        refine r_istore (loc' := [(5, .int (nI a)), (4, .int (nI (vn + 1))), (7, .int (nI a)), (6, .int vm), (3, .int nw), (0, .ref 38), (1, .int (nI p)), (2, .int 1)]) dX7_words_195 (by decide) rfl ?_
        refine r_iload dX7_words_197 rfl ?_
        refine r_istore (loc' := [(6, .int (nI a)), (5, .int (nI a)), (4, .int (nI (vn + 1))), (7, .int (nI a)), (3, .int nw), (0, .ref 38), (1, .int (nI p)), (2, .int 1)]) dX7_words_199 (by decide) rfl ?_
        refine r_iinc (v := (nI (a + 1))) (loc' := [(7, .int (nI (a + 1))), (6, .int (nI a)), (5, .int (nI a)), (4, .int (nI (vn + 1))), (3, .int nw), (0, .ref 38), (1, .int (nI p)), (2, .int 1)]) dX7_words_201 rfl ((nI_succ _).symm) (by decide) rfl ?_
        refine r_goto (tgt := 162) dX7_words_204 (by decide) ?_
        refine qG.pick [0, 1, 2, 3, 4, 5, 6, 7] rfl ?_
        first | (rw [if_pos b185] at hs; exact hs) | (rw [if_neg b185] at hs; exact hs)
set_option maxRecDepth 100000 in
set_option maxHeartbeats 1000000 in
theorem mc_loop2 (hE : hM E) {nw : Int32} (hb : ∀ b, b < 100 → A 50 b = nI (rbP S p b)) (h : Ph (some (.int (lfF (rbP S p) 100))) A L) : ∀ (k a : Nat), a + k = 100 → qG E mm_X7_words d 162 [(7, .int (nI a)), (6, .int (lmF (rbP S p) a)), (5, .int (lfF (rbP S p) a)), (4, .int (nI (sm (rbP S p) a))), (3, .int nw), (0, .ref 38), (1, .int (nI p)), (2, .int 2)] [] A L Ph := by
  intro k
  induction k with
  | zero =>
    intro a ha
    have ha : a = 100 := by omega
    subst ha
    generalize em : lmF (rbP S p) 100 = vm at *
    generalize el : lfF (rbP S p) 100 = vl at *
    generalize esn : sm (rbP S p) 100 = vn at *
    refine r_iload dX7_words_162 rfl ?_
    refine r_bipush (v := 100) dX7_words_164 rfl ?_
    refine r_icmp_ge (tgt := 207) dX7_words_166 (by decide) (fun _ => ?_) (fun hqz => absurd (nI_le (Nat.le_refl 100) (by decide)) hqz)
    refine r_iload_n dX7_words_207 rfl ?_
    refine r_iconst (v := 1) dX7_words_208 rfl ?_
    refine r_icmp_ne (tgt := 217) dX7_words_209 (by decide) (fun _ => ?_) (fun hqz => absurd hqz (by decide))
    refine r_iload_n dX7_words_217 rfl ?_
    refine r_iconst (v := 2) dX7_words_218 rfl ?_
    refine r_icmp_ne (tgt := 227) dX7_words_219 (by decide) (fun hqz => absurd (by decide) hqz) (fun _ => ?_)
    refine r_iload dX7_words_222 rfl ?_
    refine r_goto (tgt := 229) dX7_words_224 (by decide) ?_
    refine r_ireturn dX7_words_229 rfl rfl ?_
    exact h
  | succ k ih =>
    intro a ha
    have ha1 : a < 100 := by omega
    have hs := ih (a + 1) (by omega)
    rw [lmF, lfF, sm] at hs
    rcases rbP_01 S p a with er | er
    · rw [er, if_neg (by decide), if_neg (by decide), Nat.add_zero] at hs
      generalize em : lmF (rbP S p) a = vm at *
      generalize el : lfF (rbP S p) a = vl at *
      generalize esn : sm (rbP S p) a = vn at *
      refine r_iload dX7_words_162 rfl ?_
      refine r_bipush (v := 100) dX7_words_164 rfl ?_
      refine r_icmp_ge (tgt := 207) dX7_words_166 (by decide) (fun hqz => absurd hqz (nI_ge ha1 (by decide))) (fun _ => ?_)
      refine r_aload_n dX7_words_169 rfl ?_
      refine r_getR dX7_words_170 fl_X7_52 (ly_38 hE) rfl ?_
      refine r_iload dX7_words_173 rfl ?_
      refine r_zaldN dX7_words_175 (ly_50 hE) (by omega) (by decide) ?_
      refine r_rw (y := 0) (by rw [hb a ha1, er]; rfl) ?_
      refine r_if_eq (tgt := 201) dX7_words_176 (by decide) (fun _ => ?_) (fun hqz => absurd (by decide) hqz)
      refine r_iinc (v := (nI (a + 1))) (loc' := [(7, .int (nI (a + 1))), (6, .int vm), (5, .int vl), (4, .int (nI vn)), (3, .int nw), (0, .ref 38), (1, .int (nI p)), (2, .int 2)]) dX7_words_201 rfl ((nI_succ _).symm) (by decide) rfl ?_
      refine r_goto (tgt := 162) dX7_words_204 (by decide) ?_
      refine qG.pick [0, 1, 2, 3, 4, 5, 6, 7] rfl ?_
      exact hs
    · rw [er, if_pos rfl, if_pos rfl] at hs
      generalize em : lmF (rbP S p) a = vm at *
      generalize el : lfF (rbP S p) a = vl at *
      generalize esn : sm (rbP S p) a = vn at *
      refine r_iload dX7_words_162 rfl ?_
      refine r_bipush (v := 100) dX7_words_164 rfl ?_
      refine r_icmp_ge (tgt := 207) dX7_words_166 (by decide) (fun hqz => absurd hqz (nI_ge ha1 (by decide))) (fun _ => ?_)
      refine r_aload_n dX7_words_169 rfl ?_
      refine r_getR dX7_words_170 fl_X7_52 (ly_38 hE) rfl ?_
      refine r_iload dX7_words_173 rfl ?_
      refine r_zaldN dX7_words_175 (ly_50 hE) (by omega) (by decide) ?_
      refine r_rw (y := 1) (by rw [hb a ha1, er]; rfl) ?_
      refine r_if_eq (tgt := 201) dX7_words_176 (by decide) (fun hqz => absurd hqz (by decide)) (fun _ => ?_)
      refine r_iinc (v := (nI (vn + 1))) (loc' := [(4, .int (nI (vn + 1))), (7, .int (nI a)), (6, .int vm), (5, .int vl), (3, .int nw), (0, .ref 38), (1, .int (nI p)), (2, .int 2)]) dX7_words_179 rfl ((nI_succ _).symm) (by decide) rfl ?_
      refine r_iload dX7_words_182 rfl ?_
      refine r_iconst (v := (-1)) dX7_words_184 rfl ?_
      refine r_icmp_ne (tgt := 193) dX7_words_185 (by decide) (fun b185 => ?_) (fun b185 => ?_)
      · refine r_iload dX7_words_193 rfl ?_
        refine r_istore (loc' := [(5, .int vl), (4, .int (nI (vn + 1))), (7, .int (nI a)), (6, .int vm), (3, .int nw), (0, .ref 38), (1, .int (nI p)), (2, .int 2)]) dX7_words_195 (by decide) rfl ?_
        refine r_iload dX7_words_197 rfl ?_
        refine r_istore (loc' := [(6, .int (nI a)), (5, .int vl), (4, .int (nI (vn + 1))), (7, .int (nI a)), (3, .int nw), (0, .ref 38), (1, .int (nI p)), (2, .int 2)]) dX7_words_199 (by decide) rfl ?_
        refine r_iinc (v := (nI (a + 1))) (loc' := [(7, .int (nI (a + 1))), (6, .int (nI a)), (5, .int vl), (4, .int (nI (vn + 1))), (3, .int nw), (0, .ref 38), (1, .int (nI p)), (2, .int 2)]) dX7_words_201 rfl ((nI_succ _).symm) (by decide) rfl ?_
        refine r_goto (tgt := 162) dX7_words_204 (by decide) ?_
        refine qG.pick [0, 1, 2, 3, 4, 5, 6, 7] rfl ?_
        first | (rw [if_pos b185] at hs; exact hs) | (rw [if_neg b185] at hs; exact hs)
      · refine r_iload dX7_words_188 rfl ?_
        refine r_goto (tgt := 195) dX7_words_190 (by decide) ?_
        refine r_istore (loc' := [(5, .int (nI a)), (4, .int (nI (vn + 1))), (7, .int (nI a)), (6, .int vm), (3, .int nw), (0, .ref 38), (1, .int (nI p)), (2, .int 2)]) dX7_words_195 (by decide) rfl ?_
        refine r_iload dX7_words_197 rfl ?_
        refine r_istore (loc' := [(6, .int (nI a)), (5, .int (nI a)), (4, .int (nI (vn + 1))), (7, .int (nI a)), (3, .int nw), (0, .ref 38), (1, .int (nI p)), (2, .int 2)]) dX7_words_199 (by decide) rfl ?_
        refine r_iinc (v := (nI (a + 1))) (loc' := [(7, .int (nI (a + 1))), (6, .int (nI a)), (5, .int (nI a)), (4, .int (nI (vn + 1))), (3, .int nw), (0, .ref 38), (1, .int (nI p)), (2, .int 2)]) dX7_words_201 rfl ((nI_succ _).symm) (by decide) rfl ?_
        refine r_goto (tgt := 162) dX7_words_204 (by decide) ?_
        refine qG.pick [0, 1, 2, 3, 4, 5, 6, 7] rfl ?_
        first | (rw [if_pos b185] at hs; exact hs) | (rw [if_neg b185] at hs; exact hs)
set_option maxRecDepth 100000 in
set_option maxHeartbeats 1000000 in
theorem mc_loop3 (hE : hM E) {nw : Int32} (hb : ∀ b, b < 100 → A 50 b = nI (rbP S p b)) (h : Ph (some (.int (lmF (rbP S p) 100))) A L) : ∀ (k a : Nat), a + k = 100 → qG E mm_X7_words d 162 [(7, .int (nI a)), (6, .int (lmF (rbP S p) a)), (5, .int (lfF (rbP S p) a)), (4, .int (nI (sm (rbP S p) a))), (3, .int nw), (0, .ref 38), (1, .int (nI p)), (2, .int 3)] [] A L Ph := by
  intro k
  induction k with
  | zero =>
    intro a ha
    have ha : a = 100 := by omega
    subst ha
    generalize em : lmF (rbP S p) 100 = vm at *
    generalize el : lfF (rbP S p) 100 = vl at *
    generalize esn : sm (rbP S p) 100 = vn at *
    refine r_iload dX7_words_162 rfl ?_
    refine r_bipush (v := 100) dX7_words_164 rfl ?_
    refine r_icmp_ge (tgt := 207) dX7_words_166 (by decide) (fun _ => ?_) (fun hqz => absurd (nI_le (Nat.le_refl 100) (by decide)) hqz)
    refine r_iload_n dX7_words_207 rfl ?_
    refine r_iconst (v := 1) dX7_words_208 rfl ?_
    refine r_icmp_ne (tgt := 217) dX7_words_209 (by decide) (fun _ => ?_) (fun hqz => absurd hqz (by decide))
    refine r_iload_n dX7_words_217 rfl ?_
    refine r_iconst (v := 2) dX7_words_218 rfl ?_
    refine r_icmp_ne (tgt := 227) dX7_words_219 (by decide) (fun _ => ?_) (fun hqz => absurd hqz (by decide))
    refine r_iload dX7_words_227 rfl ?_
    refine r_ireturn dX7_words_229 rfl rfl ?_
    exact h
  | succ k ih =>
    intro a ha
    have ha1 : a < 100 := by omega
    have hs := ih (a + 1) (by omega)
    rw [lmF, lfF, sm] at hs
    rcases rbP_01 S p a with er | er
    · rw [er, if_neg (by decide), if_neg (by decide), Nat.add_zero] at hs
      generalize em : lmF (rbP S p) a = vm at *
      generalize el : lfF (rbP S p) a = vl at *
      generalize esn : sm (rbP S p) a = vn at *
      refine r_iload dX7_words_162 rfl ?_
      refine r_bipush (v := 100) dX7_words_164 rfl ?_
      refine r_icmp_ge (tgt := 207) dX7_words_166 (by decide) (fun hqz => absurd hqz (nI_ge ha1 (by decide))) (fun _ => ?_)
      refine r_aload_n dX7_words_169 rfl ?_
      refine r_getR dX7_words_170 fl_X7_52 (ly_38 hE) rfl ?_
      refine r_iload dX7_words_173 rfl ?_
      refine r_zaldN dX7_words_175 (ly_50 hE) (by omega) (by decide) ?_
      refine r_rw (y := 0) (by rw [hb a ha1, er]; rfl) ?_
      refine r_if_eq (tgt := 201) dX7_words_176 (by decide) (fun _ => ?_) (fun hqz => absurd (by decide) hqz)
      refine r_iinc (v := (nI (a + 1))) (loc' := [(7, .int (nI (a + 1))), (6, .int vm), (5, .int vl), (4, .int (nI vn)), (3, .int nw), (0, .ref 38), (1, .int (nI p)), (2, .int 3)]) dX7_words_201 rfl ((nI_succ _).symm) (by decide) rfl ?_
      refine r_goto (tgt := 162) dX7_words_204 (by decide) ?_
      refine qG.pick [0, 1, 2, 3, 4, 5, 6, 7] rfl ?_
      exact hs
    · rw [er, if_pos rfl, if_pos rfl] at hs
      generalize em : lmF (rbP S p) a = vm at *
      generalize el : lfF (rbP S p) a = vl at *
      generalize esn : sm (rbP S p) a = vn at *
      refine r_iload dX7_words_162 rfl ?_
      refine r_bipush (v := 100) dX7_words_164 rfl ?_
      refine r_icmp_ge (tgt := 207) dX7_words_166 (by decide) (fun hqz => absurd hqz (nI_ge ha1 (by decide))) (fun _ => ?_)
      refine r_aload_n dX7_words_169 rfl ?_
      refine r_getR dX7_words_170 fl_X7_52 (ly_38 hE) rfl ?_
      refine r_iload dX7_words_173 rfl ?_
      refine r_zaldN dX7_words_175 (ly_50 hE) (by omega) (by decide) ?_
      refine r_rw (y := 1) (by rw [hb a ha1, er]; rfl) ?_
      refine r_if_eq (tgt := 201) dX7_words_176 (by decide) (fun hqz => absurd hqz (by decide)) (fun _ => ?_)
      refine r_iinc (v := (nI (vn + 1))) (loc' := [(4, .int (nI (vn + 1))), (7, .int (nI a)), (6, .int vm), (5, .int vl), (3, .int nw), (0, .ref 38), (1, .int (nI p)), (2, .int 3)]) dX7_words_179 rfl ((nI_succ _).symm) (by decide) rfl ?_
      refine r_iload dX7_words_182 rfl ?_
      refine r_iconst (v := (-1)) dX7_words_184 rfl ?_
      refine r_icmp_ne (tgt := 193) dX7_words_185 (by decide) (fun b185 => ?_) (fun b185 => ?_)
      · refine r_iload dX7_words_193 rfl ?_
        refine r_istore (loc' := [(5, .int vl), (4, .int (nI (vn + 1))), (7, .int (nI a)), (6, .int vm), (3, .int nw), (0, .ref 38), (1, .int (nI p)), (2, .int 3)]) dX7_words_195 (by decide) rfl ?_
        refine r_iload dX7_words_197 rfl ?_
        refine r_istore (loc' := [(6, .int (nI a)), (5, .int vl), (4, .int (nI (vn + 1))), (7, .int (nI a)), (3, .int nw), (0, .ref 38), (1, .int (nI p)), (2, .int 3)]) dX7_words_199 (by decide) rfl ?_
        refine r_iinc (v := (nI (a + 1))) (loc' := [(7, .int (nI (a + 1))), (6, .int (nI a)), (5, .int vl), (4, .int (nI (vn + 1))), (3, .int nw), (0, .ref 38), (1, .int (nI p)), (2, .int 3)]) dX7_words_201 rfl ((nI_succ _).symm) (by decide) rfl ?_
        refine r_goto (tgt := 162) dX7_words_204 (by decide) ?_
        refine qG.pick [0, 1, 2, 3, 4, 5, 6, 7] rfl ?_
        first | (rw [if_pos b185] at hs; exact hs) | (rw [if_neg b185] at hs; exact hs)
      · refine r_iload dX7_words_188 rfl ?_
        refine r_goto (tgt := 195) dX7_words_190 (by decide) ?_
        refine r_istore (loc' := [(5, .int (nI a)), (4, .int (nI (vn + 1))), (7, .int (nI a)), (6, .int vm), (3, .int nw), (0, .ref 38), (1, .int (nI p)), (2, .int 3)]) dX7_words_195 (by decide) rfl ?_
        refine r_iload dX7_words_197 rfl ?_
        refine r_istore (loc' := [(6, .int (nI a)), (5, .int (nI a)), (4, .int (nI (vn + 1))), (7, .int (nI a)), (3, .int nw), (0, .ref 38), (1, .int (nI p)), (2, .int 3)]) dX7_words_199 (by decide) rfl ?_
        refine r_iinc (v := (nI (a + 1))) (loc' := [(7, .int (nI (a + 1))), (6, .int (nI a)), (5, .int (nI a)), (4, .int (nI (vn + 1))), (3, .int nw), (0, .ref 38), (1, .int (nI p)), (2, .int 3)]) dX7_words_201 rfl ((nI_succ _).symm) (by decide) rfl ?_
        refine r_goto (tgt := 162) dX7_words_204 (by decide) ?_
        refine qG.pick [0, 1, 2, 3, 4, 5, 6, 7] rfl ?_
        first | (rw [if_pos b185] at hs; exact hs) | (rw [if_neg b185] at hs; exact hs)
set_option maxRecDepth 100000 in
set_option maxHeartbeats 1000000 in
theorem op_words (hE : hM E) (hW : WfS S T n z) (pv wv : Int32) : OpOK E (d + 6) mm_X6_words mm_X7_words [.int pv, .int wv] S T n z := by
  have hEc := hE.c
  have hN := hW.2.2.2.2.1
  have hn := hN.1
  have h60 := hN.2.1
  by_cases hb : (∃ p, p < n ∧ pv = nI p) ∧ ∃ w, w < 6 ∧ wv = nI w
  · obtain ⟨⟨p, hp, rfl⟩, ⟨w, hw, rfl⟩⟩ := hb
    have ha := aP_ok hW hp
    have hcm : ∀ (v : Int32) (wv : Int32), (∀ (A : mA) (L : mJ) (Ph : mP), RC A S T n z → (∀ A', Fr xC A A' → Ph (some (.int v)) A' L) → qC E mm_X6_words (d + 6) [.ref 0, .int (nI p), .int wv] A L Ph) → (∀ (A : mA) (L : mJ) (Ph : mP), RM A S T → (∀ A', FM A A' → Ph (some (.int v)) A' L) → qC E mm_X7_words (d + 6) [.ref 38, .int (nI p), .int wv] A L Ph) → OpOK E (d + 6) mm_X6_words mm_X7_words [.int (nI p), .int wv] S T n z := fun v wv h1 h2 => ⟨.int v, S, T, n, z, ⟨_, rfl⟩, hW, fun A L Ph hR hk => h1 A L Ph hR (fun A' f => hk A' L (hR.fr f) (xR38 f)), fun A L Ph hR hk => h2 A L Ph hR (fun A' f => hk A' L (hR.fm f) f.lo)⟩
    rcases (show w = 0 ∨ w = 1 ∨ w = 2 ∨ w = 3 ∨ w = 4 ∨ w = 5 by omega) with rfl | rfl | rfl | rfl | rfl | rfl
    · refine hcm (wwP S p (fun a => a = 0)) 0 (fun A L Ph hR hk => ?_) (fun A L Ph hR hk => ?_)
      · skip
        refine qC.enter (by decide) (Nat.le_of_ble_eq_true rfl) ?_
        refine r_aload_n dX6_words_0 rfl ?_
        refine r_getR dX6_words_1 fl_X6_10 (ly_0 hEc) rfl ?_
        refine r_iload_n dX6_words_4 rfl ?_
        refine r_callV1 dX6_words_5 lk_X6_125 (ly_1 hEc) rfl (Nat.le_of_ble_eq_true rfl) (has_t hEc hn (hR.1.2.2.1.trans h60) hp ?_)
        refine r_if_eq (tgt := 20) dX6_words_8 (by decide) (fun hqz => absurd hqz (by decide)) (fun _ => ?_)
        refine r_iload_n dX6_words_11 rfl ?_
        refine r_bipush (v := 6) dX6_words_12 rfl ?_
        refine r_callS2 dX6_words_14 lk_X6_100 (Nat.le_of_ble_eq_true rfl) (win_t (j := 0) (lim := 6) rfl (by decide) (by decide) ?_)
        refine r_if_ne (tgt := 23) dX6_words_17 (by decide) (fun _ => ?_) (fun hqz => absurd hqz (by decide))
        refine r_aload_n dX6_words_23 rfl ?_
        refine r_getR dX6_words_24 fl_X6_45 (ly_0 hEc) rfl ?_
        refine r_aload_n dX6_words_27 rfl ?_
        refine r_getR dX6_words_28 fl_X6_38 (ly_0 hEc) rfl ?_
        refine r_aload_n dX6_words_31 rfl ?_
        refine r_getR dX6_words_32 fl_X6_10 (ly_0 hEc) rfl ?_
        refine r_iload_n dX6_words_35 rfl ?_
        refine r_callV3 dX6_words_36 lk_X6_201 (ly_6 hEc) rfl (Nat.le_of_ble_eq_true rfl) (sp_spread hEc hW hR hp (fun A1 sz ks f1 hc hrs => ?_))
        have fc : Fr xC A A1 := f1.mo (by decide)
        have hR1 := hR.fr fc
        refine r_iload_n dX6_words_39 rfl ?_
        refine r_tableIn (off := 36) (tgt := 76) dX6_words_40 (by decide) (by decide) rfl (by decide) ?_
        refine r_aload_n dX6_words_76 rfl ?_
        refine r_getR dX6_words_77 fl_X6_45 (ly_0 hEc) rfl ?_
        refine r_iconst (v := 0) dX6_words_80 rfl ?_
        refine r_callV1 dX6_words_81 lk_X6_217 (ly_6 hEc) rfl (Nat.le_of_ble_eq_true rfl) (wto_t (a := 0) hEc (by decide) ?_)
        refine r_rw (y := wwP S p (fun a => a = 0)) hrs.w0 ?_
        refine r_ireturn dX6_words_84 rfl rfl ?_
        exact hk A1 fc
      · skip
        refine qC.enter (by decide) (Nat.le_of_ble_eq_true rfl) ?_
        refine r_aload_n dX7_words_0 rfl ?_
        refine r_iload_n dX7_words_1 rfl ?_
        refine r_callV1 dX7_words_2 lk_X7_82 (ly_38 hE) rfl (Nat.le_of_ble_eq_true rfl) (isP_t hE hn (by rw [hR.1]; exact h60) hp ?_)
        refine r_if_eq (tgt := 17) dX7_words_5 (by decide) (fun hqz => absurd hqz (by decide)) (fun _ => ?_)
        refine r_iload_n dX7_words_8 rfl ?_
        refine r_iconst (v := 0) dX7_words_9 rfl ?_
        refine r_iconst (v := 5) dX7_words_10 rfl ?_
        refine r_callS3 dX7_words_11 lk_X7_78 (Nat.le_of_ble_eq_true rfl) (in_t (j := 0) (lim := 6) rfl rfl (by decide) (by decide) ?_)
        refine r_if_ne (tgt := 20) dX7_words_14 (by decide) (fun _ => ?_) (fun hqz => absurd hqz (by decide))
        refine r_aload_n dX7_words_20 rfl ?_
        refine r_iload_n dX7_words_21 rfl ?_
        refine r_callV1 dX7_words_22 lk_X7_239 (ly_38 hE) rfl (Nat.le_of_ble_eq_true rfl) (sp_fillM hE hW hR hp (fun A1 f1 hm hfl => ?_))
        refine r_aload_n dX7_words_25 rfl ?_
        refine r_iload_n dX7_words_26 rfl ?_
        refine r_callV1 dX7_words_27 lk_X7_101 (ly_38 hE) rfl (Nat.le_of_ble_eq_true rfl) (mo_an hE hW hm.rm hp ?_)
        refine r_rw (y := nI (aP S p)) ha.2 ?_
        refine r_istore_n (loc' := [(3, .int (nI (aP S p))), (0, .ref 38), (1, .int (nI p)), (2, .int 0)]) dX7_words_30 (by decide) rfl ?_
        refine r_iload_n dX7_words_31 rfl ?_
        refine r_if_ne (tgt := 47) dX7_words_32 (by decide) (fun hqz => absurd (by decide) hqz) (fun _ => ?_)
        refine r_aload_n dX7_words_35 rfl ?_
        refine r_iconst (v := (-1)) dX7_words_36 rfl ?_
        refine r_callV1 dX7_words_37 lk_X7_242 (ly_38 hE) rfl (Nat.le_of_ble_eq_true rfl) (sp_fillWants hE G0_h hfl (fun A2 f2 hwd => ?_))
        refine r_aload_n dX7_words_40 rfl ?_
        refine r_getR dX7_words_41 fl_X7_49 (ly_38 hE) rfl ?_
        refine r_iload_n dX7_words_44 rfl ?_
        refine r_ialdN dX7_words_45 (ly_49 hE) (ha.1) (by decide) ?_
        refine r_rw (y := wwP S p (fun a => a = 0)) (hwd.ww ha.1) ?_
        refine r_ireturn dX7_words_46 rfl rfl ?_
        exact hk A2 (f1.tr (FM.of f2 (by decide)))
    · refine hcm (nI (sm (rbP S p) 100)) 1 (fun A L Ph hR hk => ?_) (fun A L Ph hR hk => ?_)
      · skip
        refine qC.enter (by decide) (Nat.le_of_ble_eq_true rfl) ?_
        refine r_aload_n dX6_words_0 rfl ?_
        refine r_getR dX6_words_1 fl_X6_10 (ly_0 hEc) rfl ?_
        refine r_iload_n dX6_words_4 rfl ?_
        refine r_callV1 dX6_words_5 lk_X6_125 (ly_1 hEc) rfl (Nat.le_of_ble_eq_true rfl) (has_t hEc hn (hR.1.2.2.1.trans h60) hp ?_)
        refine r_if_eq (tgt := 20) dX6_words_8 (by decide) (fun hqz => absurd hqz (by decide)) (fun _ => ?_)
        refine r_iload_n dX6_words_11 rfl ?_
        refine r_bipush (v := 6) dX6_words_12 rfl ?_
        refine r_callS2 dX6_words_14 lk_X6_100 (Nat.le_of_ble_eq_true rfl) (win_t (j := 1) (lim := 6) rfl (by decide) (by decide) ?_)
        refine r_if_ne (tgt := 23) dX6_words_17 (by decide) (fun _ => ?_) (fun hqz => absurd hqz (by decide))
        refine r_aload_n dX6_words_23 rfl ?_
        refine r_getR dX6_words_24 fl_X6_45 (ly_0 hEc) rfl ?_
        refine r_aload_n dX6_words_27 rfl ?_
        refine r_getR dX6_words_28 fl_X6_38 (ly_0 hEc) rfl ?_
        refine r_aload_n dX6_words_31 rfl ?_
        refine r_getR dX6_words_32 fl_X6_10 (ly_0 hEc) rfl ?_
        refine r_iload_n dX6_words_35 rfl ?_
        refine r_callV3 dX6_words_36 lk_X6_201 (ly_6 hEc) rfl (Nat.le_of_ble_eq_true rfl) (sp_spread hEc hW hR hp (fun A1 sz ks f1 hc hrs => ?_))
        have fc : Fr xC A A1 := f1.mo (by decide)
        have hR1 := hR.fr fc
        refine r_iload_n dX6_words_39 rfl ?_
        refine r_tableIn (off := 45) (tgt := 85) dX6_words_40 (by decide) (by decide) rfl (by decide) ?_
        refine r_aload_n dX6_words_85 rfl ?_
        refine r_getR dX6_words_86 fl_X6_45 (ly_0 hEc) rfl ?_
        refine r_getI dX6_words_89 fl_X6_223 (ly_6 hEc) rfl ?_
        refine r_rw (y := nI (sm (rbP S p) 100)) (by rw [hrs.cnt]; exact hrs.1.1) ?_
        refine r_ireturn dX6_words_92 rfl rfl ?_
        exact hk A1 fc
      · skip
        refine qC.enter (by decide) (Nat.le_of_ble_eq_true rfl) ?_
        refine r_aload_n dX7_words_0 rfl ?_
        refine r_iload_n dX7_words_1 rfl ?_
        refine r_callV1 dX7_words_2 lk_X7_82 (ly_38 hE) rfl (Nat.le_of_ble_eq_true rfl) (isP_t hE hn (by rw [hR.1]; exact h60) hp ?_)
        refine r_if_eq (tgt := 17) dX7_words_5 (by decide) (fun hqz => absurd hqz (by decide)) (fun _ => ?_)
        refine r_iload_n dX7_words_8 rfl ?_
        refine r_iconst (v := 0) dX7_words_9 rfl ?_
        refine r_iconst (v := 5) dX7_words_10 rfl ?_
        refine r_callS3 dX7_words_11 lk_X7_78 (Nat.le_of_ble_eq_true rfl) (in_t (j := 1) (lim := 6) rfl rfl (by decide) (by decide) ?_)
        refine r_if_ne (tgt := 20) dX7_words_14 (by decide) (fun _ => ?_) (fun hqz => absurd hqz (by decide))
        refine r_aload_n dX7_words_20 rfl ?_
        refine r_iload_n dX7_words_21 rfl ?_
        refine r_callV1 dX7_words_22 lk_X7_239 (ly_38 hE) rfl (Nat.le_of_ble_eq_true rfl) (sp_fillM hE hW hR hp (fun A1 f1 hm hfl => ?_))
        refine r_aload_n dX7_words_25 rfl ?_
        refine r_iload_n dX7_words_26 rfl ?_
        refine r_callV1 dX7_words_27 lk_X7_101 (ly_38 hE) rfl (Nat.le_of_ble_eq_true rfl) (mo_an hE hW hm.rm hp ?_)
        refine r_rw (y := nI (aP S p)) ha.2 ?_
        refine r_istore_n (loc' := [(3, .int (nI (aP S p))), (0, .ref 38), (1, .int (nI p)), (2, .int 1)]) dX7_words_30 (by decide) rfl ?_
        refine r_iload_n dX7_words_31 rfl ?_
        refine r_if_ne (tgt := 47) dX7_words_32 (by decide) (fun _ => ?_) (fun hqz => absurd hqz (by decide))
        refine r_iload_n dX7_words_47 rfl ?_
        refine r_iconst (v := 3) dX7_words_48 rfl ?_
        refine r_icmp_le (tgt := 145) dX7_words_49 (by decide) (fun _ => ?_) (fun hqz => absurd (by decide) hqz)
        refine r_aload_n dX7_words_145 rfl ?_
        refine r_iload_n dX7_words_146 rfl ?_
        refine r_callV1 dX7_words_147 lk_X7_245 (ly_38 hE) rfl (Nat.le_of_ble_eq_true rfl) (sp_reach hE ha.1 hfl (fun A2 f2 hb => ?_))
        refine r_iconst (v := 0) dX7_words_150 rfl ?_
        refine r_istore (loc' := [(4, .int 0), (3, .int (nI (aP S p))), (0, .ref 38), (1, .int (nI p)), (2, .int 1)]) dX7_words_151 (by decide) rfl ?_
        refine r_iconst (v := (-1)) dX7_words_153 rfl ?_
        refine r_istore (loc' := [(5, .int (-1)), (4, .int 0), (3, .int (nI (aP S p))), (0, .ref 38), (1, .int (nI p)), (2, .int 1)]) dX7_words_154 (by decide) rfl ?_
        refine r_iconst (v := (-1)) dX7_words_156 rfl ?_
        refine r_istore (loc' := [(6, .int (-1)), (5, .int (-1)), (4, .int 0), (3, .int (nI (aP S p))), (0, .ref 38), (1, .int (nI p)), (2, .int 1)]) dX7_words_157 (by decide) rfl ?_
        refine r_iconst (v := 0) dX7_words_159 rfl ?_
        refine r_istore (loc' := [(7, .int 0), (6, .int (-1)), (5, .int (-1)), (4, .int 0), (3, .int (nI (aP S p))), (0, .ref 38), (1, .int (nI p)), (2, .int 1)]) dX7_words_160 (by decide) rfl ?_
        refine qG.pick [0, 1, 2, 3, 4, 5, 6, 7] rfl ?_
        exact mc_loop1 hE hb (hk A2 (f1.tr (FM.of f2 (by decide)))) 100 0 (by omega)
    · refine hcm (lfF (rbP S p) 100) 2 (fun A L Ph hR hk => ?_) (fun A L Ph hR hk => ?_)
      · skip
        refine qC.enter (by decide) (Nat.le_of_ble_eq_true rfl) ?_
        refine r_aload_n dX6_words_0 rfl ?_
        refine r_getR dX6_words_1 fl_X6_10 (ly_0 hEc) rfl ?_
        refine r_iload_n dX6_words_4 rfl ?_
        refine r_callV1 dX6_words_5 lk_X6_125 (ly_1 hEc) rfl (Nat.le_of_ble_eq_true rfl) (has_t hEc hn (hR.1.2.2.1.trans h60) hp ?_)
        refine r_if_eq (tgt := 20) dX6_words_8 (by decide) (fun hqz => absurd hqz (by decide)) (fun _ => ?_)
        refine r_iload_n dX6_words_11 rfl ?_
        refine r_bipush (v := 6) dX6_words_12 rfl ?_
        refine r_callS2 dX6_words_14 lk_X6_100 (Nat.le_of_ble_eq_true rfl) (win_t (j := 2) (lim := 6) rfl (by decide) (by decide) ?_)
        refine r_if_ne (tgt := 23) dX6_words_17 (by decide) (fun _ => ?_) (fun hqz => absurd hqz (by decide))
        refine r_aload_n dX6_words_23 rfl ?_
        refine r_getR dX6_words_24 fl_X6_45 (ly_0 hEc) rfl ?_
        refine r_aload_n dX6_words_27 rfl ?_
        refine r_getR dX6_words_28 fl_X6_38 (ly_0 hEc) rfl ?_
        refine r_aload_n dX6_words_31 rfl ?_
        refine r_getR dX6_words_32 fl_X6_10 (ly_0 hEc) rfl ?_
        refine r_iload_n dX6_words_35 rfl ?_
        refine r_callV3 dX6_words_36 lk_X6_201 (ly_6 hEc) rfl (Nat.le_of_ble_eq_true rfl) (sp_spread hEc hW hR hp (fun A1 sz ks f1 hc hrs => ?_))
        have fc : Fr xC A A1 := f1.mo (by decide)
        have hR1 := hR.fr fc
        refine r_iload_n dX6_words_39 rfl ?_
        refine r_tableIn (off := 53) (tgt := 93) dX6_words_40 (by decide) (by decide) rfl (by decide) ?_
        refine r_aload_n dX6_words_93 rfl ?_
        refine r_getR dX6_words_94 fl_X6_45 (ly_0 hEc) rfl ?_
        refine r_callV0 dX6_words_97 lk_X6_224 (ly_6 hEc) rfl (Nat.le_of_ble_eq_true rfl) (sp_X0_least hEc hW hp hrs ?_)
        refine r_rw (y := lfF (rbP S p) 100) (RS.ls hW hp hrs) ?_
        refine r_ireturn dX6_words_100 rfl rfl ?_
        exact hk A1 fc
      · skip
        refine qC.enter (by decide) (Nat.le_of_ble_eq_true rfl) ?_
        refine r_aload_n dX7_words_0 rfl ?_
        refine r_iload_n dX7_words_1 rfl ?_
        refine r_callV1 dX7_words_2 lk_X7_82 (ly_38 hE) rfl (Nat.le_of_ble_eq_true rfl) (isP_t hE hn (by rw [hR.1]; exact h60) hp ?_)
        refine r_if_eq (tgt := 17) dX7_words_5 (by decide) (fun hqz => absurd hqz (by decide)) (fun _ => ?_)
        refine r_iload_n dX7_words_8 rfl ?_
        refine r_iconst (v := 0) dX7_words_9 rfl ?_
        refine r_iconst (v := 5) dX7_words_10 rfl ?_
        refine r_callS3 dX7_words_11 lk_X7_78 (Nat.le_of_ble_eq_true rfl) (in_t (j := 2) (lim := 6) rfl rfl (by decide) (by decide) ?_)
        refine r_if_ne (tgt := 20) dX7_words_14 (by decide) (fun _ => ?_) (fun hqz => absurd hqz (by decide))
        refine r_aload_n dX7_words_20 rfl ?_
        refine r_iload_n dX7_words_21 rfl ?_
        refine r_callV1 dX7_words_22 lk_X7_239 (ly_38 hE) rfl (Nat.le_of_ble_eq_true rfl) (sp_fillM hE hW hR hp (fun A1 f1 hm hfl => ?_))
        refine r_aload_n dX7_words_25 rfl ?_
        refine r_iload_n dX7_words_26 rfl ?_
        refine r_callV1 dX7_words_27 lk_X7_101 (ly_38 hE) rfl (Nat.le_of_ble_eq_true rfl) (mo_an hE hW hm.rm hp ?_)
        refine r_rw (y := nI (aP S p)) ha.2 ?_
        refine r_istore_n (loc' := [(3, .int (nI (aP S p))), (0, .ref 38), (1, .int (nI p)), (2, .int 2)]) dX7_words_30 (by decide) rfl ?_
        refine r_iload_n dX7_words_31 rfl ?_
        refine r_if_ne (tgt := 47) dX7_words_32 (by decide) (fun _ => ?_) (fun hqz => absurd hqz (by decide))
        refine r_iload_n dX7_words_47 rfl ?_
        refine r_iconst (v := 3) dX7_words_48 rfl ?_
        refine r_icmp_le (tgt := 145) dX7_words_49 (by decide) (fun _ => ?_) (fun hqz => absurd (by decide) hqz)
        refine r_aload_n dX7_words_145 rfl ?_
        refine r_iload_n dX7_words_146 rfl ?_
        refine r_callV1 dX7_words_147 lk_X7_245 (ly_38 hE) rfl (Nat.le_of_ble_eq_true rfl) (sp_reach hE ha.1 hfl (fun A2 f2 hb => ?_))
        refine r_iconst (v := 0) dX7_words_150 rfl ?_
        refine r_istore (loc' := [(4, .int 0), (3, .int (nI (aP S p))), (0, .ref 38), (1, .int (nI p)), (2, .int 2)]) dX7_words_151 (by decide) rfl ?_
        refine r_iconst (v := (-1)) dX7_words_153 rfl ?_
        refine r_istore (loc' := [(5, .int (-1)), (4, .int 0), (3, .int (nI (aP S p))), (0, .ref 38), (1, .int (nI p)), (2, .int 2)]) dX7_words_154 (by decide) rfl ?_
        refine r_iconst (v := (-1)) dX7_words_156 rfl ?_
        refine r_istore (loc' := [(6, .int (-1)), (5, .int (-1)), (4, .int 0), (3, .int (nI (aP S p))), (0, .ref 38), (1, .int (nI p)), (2, .int 2)]) dX7_words_157 (by decide) rfl ?_
        refine r_iconst (v := 0) dX7_words_159 rfl ?_
        refine r_istore (loc' := [(7, .int 0), (6, .int (-1)), (5, .int (-1)), (4, .int 0), (3, .int (nI (aP S p))), (0, .ref 38), (1, .int (nI p)), (2, .int 2)]) dX7_words_160 (by decide) rfl ?_
        refine qG.pick [0, 1, 2, 3, 4, 5, 6, 7] rfl ?_
        exact mc_loop2 hE hb (hk A2 (f1.tr (FM.of f2 (by decide)))) 100 0 (by omega)
    · refine hcm (lmF (rbP S p) 100) 3 (fun A L Ph hR hk => ?_) (fun A L Ph hR hk => ?_)
      · skip
        refine qC.enter (by decide) (Nat.le_of_ble_eq_true rfl) ?_
        refine r_aload_n dX6_words_0 rfl ?_
        refine r_getR dX6_words_1 fl_X6_10 (ly_0 hEc) rfl ?_
        refine r_iload_n dX6_words_4 rfl ?_
        refine r_callV1 dX6_words_5 lk_X6_125 (ly_1 hEc) rfl (Nat.le_of_ble_eq_true rfl) (has_t hEc hn (hR.1.2.2.1.trans h60) hp ?_)
        refine r_if_eq (tgt := 20) dX6_words_8 (by decide) (fun hqz => absurd hqz (by decide)) (fun _ => ?_)
        refine r_iload_n dX6_words_11 rfl ?_
        refine r_bipush (v := 6) dX6_words_12 rfl ?_
        refine r_callS2 dX6_words_14 lk_X6_100 (Nat.le_of_ble_eq_true rfl) (win_t (j := 3) (lim := 6) rfl (by decide) (by decide) ?_)
        refine r_if_ne (tgt := 23) dX6_words_17 (by decide) (fun _ => ?_) (fun hqz => absurd hqz (by decide))
        refine r_aload_n dX6_words_23 rfl ?_
        refine r_getR dX6_words_24 fl_X6_45 (ly_0 hEc) rfl ?_
        refine r_aload_n dX6_words_27 rfl ?_
        refine r_getR dX6_words_28 fl_X6_38 (ly_0 hEc) rfl ?_
        refine r_aload_n dX6_words_31 rfl ?_
        refine r_getR dX6_words_32 fl_X6_10 (ly_0 hEc) rfl ?_
        refine r_iload_n dX6_words_35 rfl ?_
        refine r_callV3 dX6_words_36 lk_X6_201 (ly_6 hEc) rfl (Nat.le_of_ble_eq_true rfl) (sp_spread hEc hW hR hp (fun A1 sz ks f1 hc hrs => ?_))
        have fc : Fr xC A A1 := f1.mo (by decide)
        have hR1 := hR.fr fc
        refine r_iload_n dX6_words_39 rfl ?_
        refine r_tableIn (off := 61) (tgt := 101) dX6_words_40 (by decide) (by decide) rfl (by decide) ?_
        refine r_aload_n dX6_words_101 rfl ?_
        refine r_getR dX6_words_102 fl_X6_45 (ly_0 hEc) rfl ?_
        refine r_callV0 dX6_words_105 lk_X6_227 (ly_6 hEc) rfl (Nat.le_of_ble_eq_true rfl) (sp_X0_most hEc hW hp hrs ?_)
        refine r_rw (y := lmF (rbP S p) 100) (RS.mo hW hp hrs) ?_
        refine r_ireturn dX6_words_108 rfl rfl ?_
        exact hk A1 fc
      · skip
        refine qC.enter (by decide) (Nat.le_of_ble_eq_true rfl) ?_
        refine r_aload_n dX7_words_0 rfl ?_
        refine r_iload_n dX7_words_1 rfl ?_
        refine r_callV1 dX7_words_2 lk_X7_82 (ly_38 hE) rfl (Nat.le_of_ble_eq_true rfl) (isP_t hE hn (by rw [hR.1]; exact h60) hp ?_)
        refine r_if_eq (tgt := 17) dX7_words_5 (by decide) (fun hqz => absurd hqz (by decide)) (fun _ => ?_)
        refine r_iload_n dX7_words_8 rfl ?_
        refine r_iconst (v := 0) dX7_words_9 rfl ?_
        refine r_iconst (v := 5) dX7_words_10 rfl ?_
        refine r_callS3 dX7_words_11 lk_X7_78 (Nat.le_of_ble_eq_true rfl) (in_t (j := 3) (lim := 6) rfl rfl (by decide) (by decide) ?_)
        refine r_if_ne (tgt := 20) dX7_words_14 (by decide) (fun _ => ?_) (fun hqz => absurd hqz (by decide))
        refine r_aload_n dX7_words_20 rfl ?_
        refine r_iload_n dX7_words_21 rfl ?_
        refine r_callV1 dX7_words_22 lk_X7_239 (ly_38 hE) rfl (Nat.le_of_ble_eq_true rfl) (sp_fillM hE hW hR hp (fun A1 f1 hm hfl => ?_))
        refine r_aload_n dX7_words_25 rfl ?_
        refine r_iload_n dX7_words_26 rfl ?_
        refine r_callV1 dX7_words_27 lk_X7_101 (ly_38 hE) rfl (Nat.le_of_ble_eq_true rfl) (mo_an hE hW hm.rm hp ?_)
        refine r_rw (y := nI (aP S p)) ha.2 ?_
        refine r_istore_n (loc' := [(3, .int (nI (aP S p))), (0, .ref 38), (1, .int (nI p)), (2, .int 3)]) dX7_words_30 (by decide) rfl ?_
        refine r_iload_n dX7_words_31 rfl ?_
        refine r_if_ne (tgt := 47) dX7_words_32 (by decide) (fun _ => ?_) (fun hqz => absurd hqz (by decide))
        refine r_iload_n dX7_words_47 rfl ?_
        refine r_iconst (v := 3) dX7_words_48 rfl ?_
        refine r_icmp_le (tgt := 145) dX7_words_49 (by decide) (fun _ => ?_) (fun hqz => absurd (by decide) hqz)
        refine r_aload_n dX7_words_145 rfl ?_
        refine r_iload_n dX7_words_146 rfl ?_
        refine r_callV1 dX7_words_147 lk_X7_245 (ly_38 hE) rfl (Nat.le_of_ble_eq_true rfl) (sp_reach hE ha.1 hfl (fun A2 f2 hb => ?_))
        refine r_iconst (v := 0) dX7_words_150 rfl ?_
        refine r_istore (loc' := [(4, .int 0), (3, .int (nI (aP S p))), (0, .ref 38), (1, .int (nI p)), (2, .int 3)]) dX7_words_151 (by decide) rfl ?_
        refine r_iconst (v := (-1)) dX7_words_153 rfl ?_
        refine r_istore (loc' := [(5, .int (-1)), (4, .int 0), (3, .int (nI (aP S p))), (0, .ref 38), (1, .int (nI p)), (2, .int 3)]) dX7_words_154 (by decide) rfl ?_
        refine r_iconst (v := (-1)) dX7_words_156 rfl ?_
        refine r_istore (loc' := [(6, .int (-1)), (5, .int (-1)), (4, .int 0), (3, .int (nI (aP S p))), (0, .ref 38), (1, .int (nI p)), (2, .int 3)]) dX7_words_157 (by decide) rfl ?_
        refine r_iconst (v := 0) dX7_words_159 rfl ?_
        refine r_istore (loc' := [(7, .int 0), (6, .int (-1)), (5, .int (-1)), (4, .int 0), (3, .int (nI (aP S p))), (0, .ref 38), (1, .int (nI p)), (2, .int 3)]) dX7_words_160 (by decide) rfl ?_
        refine qG.pick [0, 1, 2, 3, 4, 5, 6, 7] rfl ?_
        exact mc_loop3 hE hb (hk A2 (f1.tr (FM.of f2 (by decide)))) 100 0 (by omega)
    · refine hcm (nI (bbF (fwI S p) 5)) 4 (fun A L Ph hR hk => ?_) (fun A L Ph hR hk => ?_)
      · skip
        refine qC.enter (by decide) (Nat.le_of_ble_eq_true rfl) ?_
        refine r_aload_n dX6_words_0 rfl ?_
        refine r_getR dX6_words_1 fl_X6_10 (ly_0 hEc) rfl ?_
        refine r_iload_n dX6_words_4 rfl ?_
        refine r_callV1 dX6_words_5 lk_X6_125 (ly_1 hEc) rfl (Nat.le_of_ble_eq_true rfl) (has_t hEc hn (hR.1.2.2.1.trans h60) hp ?_)
        refine r_if_eq (tgt := 20) dX6_words_8 (by decide) (fun hqz => absurd hqz (by decide)) (fun _ => ?_)
        refine r_iload_n dX6_words_11 rfl ?_
        refine r_bipush (v := 6) dX6_words_12 rfl ?_
        refine r_callS2 dX6_words_14 lk_X6_100 (Nat.le_of_ble_eq_true rfl) (win_t (j := 4) (lim := 6) rfl (by decide) (by decide) ?_)
        refine r_if_ne (tgt := 23) dX6_words_17 (by decide) (fun _ => ?_) (fun hqz => absurd hqz (by decide))
        refine r_aload_n dX6_words_23 rfl ?_
        refine r_getR dX6_words_24 fl_X6_45 (ly_0 hEc) rfl ?_
        refine r_aload_n dX6_words_27 rfl ?_
        refine r_getR dX6_words_28 fl_X6_38 (ly_0 hEc) rfl ?_
        refine r_aload_n dX6_words_31 rfl ?_
        refine r_getR dX6_words_32 fl_X6_10 (ly_0 hEc) rfl ?_
        refine r_iload_n dX6_words_35 rfl ?_
        refine r_callV3 dX6_words_36 lk_X6_201 (ly_6 hEc) rfl (Nat.le_of_ble_eq_true rfl) (sp_spread hEc hW hR hp (fun A1 sz ks f1 hc hrs => ?_))
        have fc : Fr xC A A1 := f1.mo (by decide)
        have hR1 := hR.fr fc
        refine r_iload_n dX6_words_39 rfl ?_
        refine r_tableIn (off := 69) (tgt := 109) dX6_words_40 (by decide) (by decide) rfl (by decide) ?_
        refine r_aload_n dX6_words_109 rfl ?_
        refine r_aload_n dX6_words_110 rfl ?_
        refine r_getR dX6_words_111 fl_X6_10 (ly_0 hEc) rfl ?_
        refine r_iload_n dX6_words_114 rfl ?_
        refine r_callV1 dX6_words_115 lk_X6_132 (ly_1 hEc) rfl (Nat.le_of_ble_eq_true rfl) (co_an hEc hW hR1 hp ?_)
        refine r_rw (y := nI (aP S p)) ha.2 ?_
        refine r_callV1 dX6_words_118 lk_X6_230 (ly_0 hEc) rfl (Nat.le_of_ble_eq_true rfl) (sp_bestWord hc (fun A2 f2 => ?_))
        refine r_ireturn dX6_words_121 rfl rfl ?_
        exact hk A2 (fc.tr f2.c)
      · skip
        refine qC.enter (by decide) (Nat.le_of_ble_eq_true rfl) ?_
        refine r_aload_n dX7_words_0 rfl ?_
        refine r_iload_n dX7_words_1 rfl ?_
        refine r_callV1 dX7_words_2 lk_X7_82 (ly_38 hE) rfl (Nat.le_of_ble_eq_true rfl) (isP_t hE hn (by rw [hR.1]; exact h60) hp ?_)
        refine r_if_eq (tgt := 17) dX7_words_5 (by decide) (fun hqz => absurd hqz (by decide)) (fun _ => ?_)
        refine r_iload_n dX7_words_8 rfl ?_
        refine r_iconst (v := 0) dX7_words_9 rfl ?_
        refine r_iconst (v := 5) dX7_words_10 rfl ?_
        refine r_callS3 dX7_words_11 lk_X7_78 (Nat.le_of_ble_eq_true rfl) (in_t (j := 4) (lim := 6) rfl rfl (by decide) (by decide) ?_)
        refine r_if_ne (tgt := 20) dX7_words_14 (by decide) (fun _ => ?_) (fun hqz => absurd hqz (by decide))
        refine r_aload_n dX7_words_20 rfl ?_
        refine r_iload_n dX7_words_21 rfl ?_
        refine r_callV1 dX7_words_22 lk_X7_239 (ly_38 hE) rfl (Nat.le_of_ble_eq_true rfl) (sp_fillM hE hW hR hp (fun A1 f1 hm hfl => ?_))
        refine r_aload_n dX7_words_25 rfl ?_
        refine r_iload_n dX7_words_26 rfl ?_
        refine r_callV1 dX7_words_27 lk_X7_101 (ly_38 hE) rfl (Nat.le_of_ble_eq_true rfl) (mo_an hE hW hm.rm hp ?_)
        refine r_rw (y := nI (aP S p)) ha.2 ?_
        refine r_istore_n (loc' := [(3, .int (nI (aP S p))), (0, .ref 38), (1, .int (nI p)), (2, .int 4)]) dX7_words_30 (by decide) rfl ?_
        refine r_iload_n dX7_words_31 rfl ?_
        refine r_if_ne (tgt := 47) dX7_words_32 (by decide) (fun _ => ?_) (fun hqz => absurd hqz (by decide))
        refine r_iload_n dX7_words_47 rfl ?_
        refine r_iconst (v := 3) dX7_words_48 rfl ?_
        refine r_icmp_le (tgt := 145) dX7_words_49 (by decide) (fun hqz => absurd hqz (by decide)) (fun _ => ?_)
        refine r_iconst (v := 0) dX7_words_52 rfl ?_
        refine r_istore (loc' := [(4, .int 0), (3, .int (nI (aP S p))), (0, .ref 38), (1, .int (nI p)), (2, .int 4)]) dX7_words_53 (by decide) rfl ?_
        refine r_iconst (v := 1) dX7_words_55 rfl ?_
        refine r_istore (loc' := [(5, .int 1), (4, .int 0), (3, .int (nI (aP S p))), (0, .ref 38), (1, .int (nI p)), (2, .int 4)]) dX7_words_56 (by decide) rfl ?_
        refine qG.pick [0, 1, 2, 3, 4, 5] rfl ?_
        exact mb_loop4 hE hfl ha.1 (hk A1 f1) 5 0 (by omega)
    · refine hcm (fwI S p (bbF (fwI S p) 5)) 5 (fun A L Ph hR hk => ?_) (fun A L Ph hR hk => ?_)
      · skip
        refine qC.enter (by decide) (Nat.le_of_ble_eq_true rfl) ?_
        refine r_aload_n dX6_words_0 rfl ?_
        refine r_getR dX6_words_1 fl_X6_10 (ly_0 hEc) rfl ?_
        refine r_iload_n dX6_words_4 rfl ?_
        refine r_callV1 dX6_words_5 lk_X6_125 (ly_1 hEc) rfl (Nat.le_of_ble_eq_true rfl) (has_t hEc hn (hR.1.2.2.1.trans h60) hp ?_)
        refine r_if_eq (tgt := 20) dX6_words_8 (by decide) (fun hqz => absurd hqz (by decide)) (fun _ => ?_)
        refine r_iload_n dX6_words_11 rfl ?_
        refine r_bipush (v := 6) dX6_words_12 rfl ?_
        refine r_callS2 dX6_words_14 lk_X6_100 (Nat.le_of_ble_eq_true rfl) (win_t (j := 5) (lim := 6) rfl (by decide) (by decide) ?_)
        refine r_if_ne (tgt := 23) dX6_words_17 (by decide) (fun _ => ?_) (fun hqz => absurd hqz (by decide))
        refine r_aload_n dX6_words_23 rfl ?_
        refine r_getR dX6_words_24 fl_X6_45 (ly_0 hEc) rfl ?_
        refine r_aload_n dX6_words_27 rfl ?_
        refine r_getR dX6_words_28 fl_X6_38 (ly_0 hEc) rfl ?_
        refine r_aload_n dX6_words_31 rfl ?_
        refine r_getR dX6_words_32 fl_X6_10 (ly_0 hEc) rfl ?_
        refine r_iload_n dX6_words_35 rfl ?_
        refine r_callV3 dX6_words_36 lk_X6_201 (ly_6 hEc) rfl (Nat.le_of_ble_eq_true rfl) (sp_spread hEc hW hR hp (fun A1 sz ks f1 hc hrs => ?_))
        have fc : Fr xC A A1 := f1.mo (by decide)
        have hR1 := hR.fr fc
        refine r_iload_n dX6_words_39 rfl ?_
        refine r_tableOut (tgt := 122) dX6_words_40 (by decide) (by decide) ?_
        refine r_aload_n dX6_words_122 rfl ?_
        refine r_aload_n dX6_words_123 rfl ?_
        refine r_getR dX6_words_124 fl_X6_10 (ly_0 hEc) rfl ?_
        refine r_iload_n dX6_words_127 rfl ?_
        refine r_callV1 dX6_words_128 lk_X6_132 (ly_1 hEc) rfl (Nat.le_of_ble_eq_true rfl) (co_an hEc hW hR1 hp ?_)
        refine r_rw (y := nI (aP S p)) ha.2 ?_
        refine r_aload_n dX6_words_131 rfl ?_
        refine r_aload_n dX6_words_132 rfl ?_
        refine r_getR dX6_words_133 fl_X6_10 (ly_0 hEc) rfl ?_
        refine r_iload_n dX6_words_136 rfl ?_
        refine r_callV1 dX6_words_137 lk_X6_132 (ly_1 hEc) rfl (Nat.le_of_ble_eq_true rfl) (co_an hEc hW hR1 hp ?_)
        refine r_rw (y := nI (aP S p)) ha.2 ?_
        refine r_callV1 dX6_words_140 lk_X6_230 (ly_0 hEc) rfl (Nat.le_of_ble_eq_true rfl) (sp_bestWord hc (fun A2 f2 => ?_))
        refine r_callV2 dX6_words_143 lk_X6_233 (ly_0 hEc) rfl (Nat.le_of_ble_eq_true rfl) (sp_farBehind6 (hc.fr f2) (fun A3 f3 => ?_))
        refine r_ireturn dX6_words_146 rfl rfl ?_
        exact hk A3 ((fc.tr f2.c).tr f3.c)
      · skip
        refine qC.enter (by decide) (Nat.le_of_ble_eq_true rfl) ?_
        refine r_aload_n dX7_words_0 rfl ?_
        refine r_iload_n dX7_words_1 rfl ?_
        refine r_callV1 dX7_words_2 lk_X7_82 (ly_38 hE) rfl (Nat.le_of_ble_eq_true rfl) (isP_t hE hn (by rw [hR.1]; exact h60) hp ?_)
        refine r_if_eq (tgt := 17) dX7_words_5 (by decide) (fun hqz => absurd hqz (by decide)) (fun _ => ?_)
        refine r_iload_n dX7_words_8 rfl ?_
        refine r_iconst (v := 0) dX7_words_9 rfl ?_
        refine r_iconst (v := 5) dX7_words_10 rfl ?_
        refine r_callS3 dX7_words_11 lk_X7_78 (Nat.le_of_ble_eq_true rfl) (in_t (j := 5) (lim := 6) rfl rfl (by decide) (by decide) ?_)
        refine r_if_ne (tgt := 20) dX7_words_14 (by decide) (fun _ => ?_) (fun hqz => absurd hqz (by decide))
        refine r_aload_n dX7_words_20 rfl ?_
        refine r_iload_n dX7_words_21 rfl ?_
        refine r_callV1 dX7_words_22 lk_X7_239 (ly_38 hE) rfl (Nat.le_of_ble_eq_true rfl) (sp_fillM hE hW hR hp (fun A1 f1 hm hfl => ?_))
        refine r_aload_n dX7_words_25 rfl ?_
        refine r_iload_n dX7_words_26 rfl ?_
        refine r_callV1 dX7_words_27 lk_X7_101 (ly_38 hE) rfl (Nat.le_of_ble_eq_true rfl) (mo_an hE hW hm.rm hp ?_)
        refine r_rw (y := nI (aP S p)) ha.2 ?_
        refine r_istore_n (loc' := [(3, .int (nI (aP S p))), (0, .ref 38), (1, .int (nI p)), (2, .int 5)]) dX7_words_30 (by decide) rfl ?_
        refine r_iload_n dX7_words_31 rfl ?_
        refine r_if_ne (tgt := 47) dX7_words_32 (by decide) (fun _ => ?_) (fun hqz => absurd hqz (by decide))
        refine r_iload_n dX7_words_47 rfl ?_
        refine r_iconst (v := 3) dX7_words_48 rfl ?_
        refine r_icmp_le (tgt := 145) dX7_words_49 (by decide) (fun hqz => absurd hqz (by decide)) (fun _ => ?_)
        refine r_iconst (v := 0) dX7_words_52 rfl ?_
        refine r_istore (loc' := [(4, .int 0), (3, .int (nI (aP S p))), (0, .ref 38), (1, .int (nI p)), (2, .int 5)]) dX7_words_53 (by decide) rfl ?_
        refine r_iconst (v := 1) dX7_words_55 rfl ?_
        refine r_istore (loc' := [(5, .int 1), (4, .int 0), (3, .int (nI (aP S p))), (0, .ref 38), (1, .int (nI p)), (2, .int 5)]) dX7_words_56 (by decide) rfl ?_
        refine qG.pick [0, 1, 2, 3, 4, 5] rfl ?_
        exact mb_loop5 hE hfl ha.1 (hk A1 f1) 5 0 (by omega)
  · refine ⟨.int (-2), S, T, n, z, ⟨_, rfl⟩, hW, fun A L Ph hR hk => ?_, fun A L Ph hR hk => ?_⟩
    · have K := hk A L hR (fun _ _ => rfl)
      refine qC.enter (by decide) (Nat.le_of_ble_eq_true rfl) ?_
      refine r_aload_n dX6_words_0 rfl ?_
      refine r_getR dX6_words_1 fl_X6_10 (ly_0 hEc) rfl ?_
      refine r_iload_n dX6_words_4 rfl ?_
      refine r_callV1 dX6_words_5 lk_X6_125 (ly_1 hEc) rfl (Nat.le_of_ble_eq_true rfl) (sp_X2_has hEc n hn (hR.1.2.2.1.trans h60) (fun p hp ep => ?_) (fun _ => ?_))
      · refine r_if_eq (tgt := 20) dX6_words_8 (by decide) (fun hqz => absurd hqz (by decide)) (fun _ => ?_)
        refine r_iload_n dX6_words_11 rfl ?_
        refine r_bipush (v := 6) dX6_words_12 rfl ?_
        refine r_callS2 dX6_words_14 lk_X6_100 (Nat.le_of_ble_eq_true rfl) (win_f 6 rfl (by decide) (fun y hy ey => hb ⟨⟨p, hp, ep⟩, ⟨y, hy, ey⟩⟩) ?_)
        refine r_if_ne (tgt := 23) dX6_words_17 (by decide) (fun hqz => absurd (by decide) hqz) (fun _ => ?_)
        refine r_bipush (v := (-2)) dX6_words_20 rfl ?_
        refine r_ireturn dX6_words_22 rfl rfl ?_
        exact K
      · refine r_if_eq (tgt := 20) dX6_words_8 (by decide) (fun _ => ?_) (fun hqz => absurd (by decide) hqz)
        refine r_bipush (v := (-2)) dX6_words_20 rfl ?_
        refine r_ireturn dX6_words_22 rfl rfl ?_
        exact K
    · have K := hk A L hR (fun _ _ => rfl)
      refine qC.enter (by decide) (Nat.le_of_ble_eq_true rfl) ?_
      refine r_aload_n dX7_words_0 rfl ?_
      refine r_iload_n dX7_words_1 rfl ?_
      refine r_callV1 dX7_words_2 lk_X7_82 (ly_38 hE) rfl (Nat.le_of_ble_eq_true rfl) (sp_X7_isPair hE n hn (by rw [hR.1]; exact h60) (fun p hp ep => ?_) (fun _ => ?_))
      · refine r_if_eq (tgt := 17) dX7_words_5 (by decide) (fun hqz => absurd hqz (by decide)) (fun _ => ?_)
        refine r_iload_n dX7_words_8 rfl ?_
        refine r_iconst (v := 0) dX7_words_9 rfl ?_
        refine r_iconst (v := 5) dX7_words_10 rfl ?_
        refine r_callS3 dX7_words_11 lk_X7_78 (Nat.le_of_ble_eq_true rfl) (in_f 6 rfl rfl (by decide) (fun y hy ey => hb ⟨⟨p, hp, ep⟩, ⟨y, hy, ey⟩⟩) ?_)
        refine r_if_ne (tgt := 20) dX7_words_14 (by decide) (fun hqz => absurd (by decide) hqz) (fun _ => ?_)
        refine r_bipush (v := (-2)) dX7_words_17 rfl ?_
        refine r_ireturn dX7_words_19 rfl rfl ?_
        exact K
      · refine r_if_eq (tgt := 17) dX7_words_5 (by decide) (fun _ => ?_) (fun hqz => absurd (by decide) hqz)
        refine r_bipush (v := (-2)) dX7_words_17 rfl ?_
        refine r_ireturn dX7_words_19 rfl rfl ?_
        exact K
set_option maxRecDepth 100000 in
set_option maxHeartbeats 1000000 in
theorem fr_loop (hE : hC E) (hW : WfS S T n z) : ∀ (k p : Nat) (A : mA), p + k = n → RC A S T n z → (∀ A', Fr xC A A' → Ph (some (.int (nI (feF S n)))) A' L) → qG E mm_X6_furthestReached (d + 5) 4 [(2, .int (nI p)), (1, .int (nI (feF S p))), (0, .ref 0)] [] A L Ph := by
  have hn := hW.2.2.2.2.1.1
  have h60 := hW.2.2.2.2.1.2.1
  intro k
  induction k with
  | zero =>
    intro p A hi hR h
    have hi : p = n := by omega
    subst hi
    refine r_iload_n dX6_furthestReached_4 rfl ?_
    refine r_aload_n dX6_furthestReached_5 rfl ?_
    refine r_getR dX6_furthestReached_6 fl_X6_10 (ly_0 hE) rfl ?_
    refine r_getI dX6_furthestReached_9 fl_X6_93 (ly_1 hE) rfl ?_
    refine r_rw (y := nI p) (hR.1.2.2.1.trans h60) ?_
    refine r_icmp_ge (tgt := 53) dX6_furthestReached_12 (by decide) (fun _ => ?_) (fun hqz => absurd (nI_le (Nat.le_refl _) (by omega)) hqz)
    refine r_iload_n dX6_furthestReached_53 rfl ?_
    refine r_ireturn dX6_furthestReached_54 rfl rfl ?_
    exact h A Fr.rf
  | succ k ih =>
    intro p A hi hR h
    have hp : p < n := by omega
    have hs := ih (p + 1)
    have hb := feF_le hW p (by omega)
    rw [feF] at hs
    generalize feF S p = c at *
    refine r_iload_n dX6_furthestReached_4 rfl ?_
    refine r_aload_n dX6_furthestReached_5 rfl ?_
    refine r_getR dX6_furthestReached_6 fl_X6_10 (ly_0 hE) rfl ?_
    refine r_getI dX6_furthestReached_9 fl_X6_93 (ly_1 hE) rfl ?_
    refine r_rw (y := nI n) (hR.1.2.2.1.trans h60) ?_
    refine r_icmp_ge (tgt := 53) dX6_furthestReached_12 (by decide) (fun hqz => absurd hqz (nI_ge hp (by omega))) (fun _ => ?_)
    refine r_aload_n dX6_furthestReached_15 rfl ?_
    refine r_getR dX6_furthestReached_16 fl_X6_45 (ly_0 hE) rfl ?_
    refine r_aload_n dX6_furthestReached_19 rfl ?_
    refine r_getR dX6_furthestReached_20 fl_X6_38 (ly_0 hE) rfl ?_
    refine r_aload_n dX6_furthestReached_23 rfl ?_
    refine r_getR dX6_furthestReached_24 fl_X6_10 (ly_0 hE) rfl ?_
    refine r_iload_n dX6_furthestReached_27 rfl ?_
    refine r_callV3 dX6_furthestReached_28 lk_X6_201 (ly_6 hE) rfl (Nat.le_of_ble_eq_true rfl) (sp_spread hE hW hR hp (fun A1 sz ks f1 hc hrs => ?_))
    have hm40 := moN_le (x := fun j => farN S p (eP S p (ks j))) (m := 40) (fun j => (farN_ok hW hp _).1) sz
    refine r_iload_n dX6_furthestReached_31 rfl ?_
    refine r_aload_n dX6_furthestReached_32 rfl ?_
    refine r_getR dX6_furthestReached_33 fl_X6_45 (ly_0 hE) rfl ?_
    refine r_aload_n dX6_furthestReached_36 rfl ?_
    refine r_getR dX6_furthestReached_37 fl_X6_38 (ly_0 hE) rfl ?_
    refine r_callV1 dX6_furthestReached_40 lk_X6_205 (ly_6 hE) rfl (Nat.le_of_ble_eq_true rfl) (sp_furthestR hW hp hc hrs (fun A2 f2 => ?_))
    refine r_mmax dX6_furthestReached_43 lmx_X6_208 (Nat.le_of_ble_eq_true rfl) ?_
    refine r_rw (y := nI (mxc (rbP S p) (farN S p) c 100)) ((mx_nI (by omega) (by omega)).trans (by rw [RS.fu hW hp hrs])) ?_
    refine r_istore_n (loc' := [(1, .int (nI (mxc (rbP S p) (farN S p) c 100))), (2, .int (nI p)), (0, .ref 0)]) dX6_furthestReached_46 (by decide) rfl ?_
    refine r_iinc (v := (nI (p + 1))) (loc' := [(2, .int (nI (p + 1))), (1, .int (nI (mxc (rbP S p) (farN S p) c 100))), (0, .ref 0)]) dX6_furthestReached_47 rfl ((nI_succ _).symm) (by decide) rfl ?_
    refine r_goto (tgt := 4) dX6_furthestReached_50 (by decide) ?_
    refine qG.pick [0, 1, 2] rfl ?_
    exact hs A2 (by omega) (hR.fr (f1R f1 f2)) (fun A' f => h A' ((f1R f1 f2).tr f))
set_option maxRecDepth 100000 in
set_option maxHeartbeats 1000000 in
theorem sp_furthestReached (hE : hC E) (hW : WfS S T n z) (hR : RC A S T n z) (h : ∀ A', Fr xC A A' → Ph (some (.int (nI (feF S n)))) A' L) : qC E mm_X6_furthestReached (d + 5) [.ref 0] A L Ph := by
  refine qC.enter (by decide) (Nat.le_of_ble_eq_true rfl) ?_
  refine r_iconst (v := 0) dX6_furthestReached_0 rfl ?_
  refine r_istore_n (loc' := [(1, .int 0), (0, .ref 0)]) dX6_furthestReached_1 (by decide) rfl ?_
  refine r_iconst (v := 0) dX6_furthestReached_2 rfl ?_
  refine r_istore_n (loc' := [(2, .int 0), (1, .int 0), (0, .ref 0)]) dX6_furthestReached_3 (by decide) rfl ?_
  refine qG.pick [0, 1, 2] rfl ?_
  exact fr_loop hE hW n 0 A (by omega) hR h
set_option maxRecDepth 100000 in
set_option maxHeartbeats 1000000 in
theorem mf_in (hE : hM E) (hW : WfS S T n z) (hp : p < n) {c : Nat} (hc : c ≤ 40) (hfl : FLL A S p) (hb : ∀ b, b < 100 → A 50 b = nI (rbP S p b)) (h : qG E mm_X7_farthestEver d 70 [(1, .int (nI (mxc (rbP S p) (farN S p) c 100))), (2, .int (nI p)), (0, .ref 38)] [] A L Ph) : ∀ (k a : Nat), a + k = 100 → qG E mm_X7_farthestEver d 28 [(3, .int (nI a)), (1, .int (nI (mxc (rbP S p) (farN S p) c a))), (2, .int (nI p)), (0, .ref 38)] [] A L Ph := by
  intro k
  induction k with
  | zero =>
    intro a ha
    have ha : a = 100 := by omega
    subst ha
    generalize mxc (rbP S p) (farN S p) c 100 = m at *
    refine r_iload_n dX7_farthestEver_28 rfl ?_
    refine r_bipush (v := 100) dX7_farthestEver_29 rfl ?_
    refine r_icmp_ge (tgt := 70) dX7_farthestEver_31 (by decide) (fun _ => ?_) (fun hqz => absurd (nI_le (Nat.le_refl 100) (by decide)) hqz)
    refine qG.pick [1, 2, 3] rfl ?_
    exact h
  | succ k ih =>
    intro a ha
    have ha1 : a < 100 := by omega
    have hs := ih (a + 1) (by omega)
    have hf := farN_ok hW hp a
    have hm40 : mxc (rbP S p) (farN S p) c a ≤ 40 := by
      rcases (mxc_ok (rbP S p) (farN S p) c a).2.2 with e | ⟨b, _, _, e⟩
      · omega
      · rw [← e]; exact (farN_ok hW hp b).1
    rw [mxc] at hs
    generalize mxc (rbP S p) (farN S p) c a = m at *
    rcases rbP_01 S p a with er | er
    · rw [if_neg (fun z => absurd (er.symm.trans z.1) (by decide))] at hs
      refine r_iload_n dX7_farthestEver_28 rfl ?_
      refine r_bipush (v := 100) dX7_farthestEver_29 rfl ?_
      refine r_icmp_ge (tgt := 70) dX7_farthestEver_31 (by decide) (fun hqz => absurd hqz (nI_ge ha1 (by decide))) (fun _ => ?_)
      refine r_aload_n dX7_farthestEver_34 rfl ?_
      refine r_getR dX7_farthestEver_35 fl_X7_52 (ly_38 hE) rfl ?_
      refine r_iload_n dX7_farthestEver_38 rfl ?_
      refine r_zaldN dX7_farthestEver_39 (ly_50 hE) (by omega) (by decide) ?_
      refine r_rw (y := 0) (by rw [hb a ha1, er]; rfl) ?_
      refine r_if_eq (tgt := 62) dX7_farthestEver_40 (by decide) (fun _ => ?_) (fun hqz => absurd (by decide) hqz)
      refine r_iload_n dX7_farthestEver_62 rfl ?_
      refine r_istore_n (loc' := [(1, .int (nI m)), (3, .int (nI a)), (2, .int (nI p)), (0, .ref 38)]) dX7_farthestEver_63 (by decide) rfl ?_
      refine r_iinc (v := (nI (a + 1))) (loc' := [(3, .int (nI (a + 1))), (1, .int (nI m)), (2, .int (nI p)), (0, .ref 38)]) dX7_farthestEver_64 rfl ((nI_succ _).symm) (by decide) rfl ?_
      refine r_goto (tgt := 28) dX7_farthestEver_67 (by decide) ?_
      refine qG.pick [0, 1, 2, 3] rfl ?_
      exact hs
    · refine r_iload_n dX7_farthestEver_28 rfl ?_
      refine r_bipush (v := 100) dX7_farthestEver_29 rfl ?_
      refine r_icmp_ge (tgt := 70) dX7_farthestEver_31 (by decide) (fun hqz => absurd hqz (nI_ge ha1 (by decide))) (fun _ => ?_)
      refine r_aload_n dX7_farthestEver_34 rfl ?_
      refine r_getR dX7_farthestEver_35 fl_X7_52 (ly_38 hE) rfl ?_
      refine r_iload_n dX7_farthestEver_38 rfl ?_
      refine r_zaldN dX7_farthestEver_39 (ly_50 hE) (by omega) (by decide) ?_
      refine r_rw (y := 1) (by rw [hb a ha1, er]; rfl) ?_
      refine r_if_eq (tgt := 62) dX7_farthestEver_40 (by decide) (fun hqz => absurd hqz (by decide)) (fun _ => ?_)
      refine r_aload_n dX7_farthestEver_43 rfl ?_
      refine r_getR dX7_farthestEver_44 fl_X7_46 (ly_38 hE) rfl ?_
      refine r_iload_n dX7_farthestEver_47 rfl ?_
      refine r_ialdN dX7_farthestEver_48 (ly_48 hE) (by omega) (by decide) ?_
      refine r_rw (y := nI (farN S p a)) ((hfl.1 a ha1).trans hf.2) ?_
      refine r_iload_n dX7_farthestEver_49 rfl ?_
      refine r_icmp_le (tgt := 62) dX7_farthestEver_50 (by decide) (fun b50 => ?_) (fun b50 => ?_)
      · refine r_iload_n dX7_farthestEver_62 rfl ?_
        refine r_istore_n (loc' := [(1, .int (nI m)), (3, .int (nI a)), (2, .int (nI p)), (0, .ref 38)]) dX7_farthestEver_63 (by decide) rfl ?_
        refine r_iinc (v := (nI (a + 1))) (loc' := [(3, .int (nI (a + 1))), (1, .int (nI m)), (2, .int (nI p)), (0, .ref 38)]) dX7_farthestEver_64 rfl ((nI_succ _).symm) (by decide) rfl ?_
        refine r_goto (tgt := 28) dX7_farthestEver_67 (by decide) ?_
        refine qG.pick [0, 1, 2, 3] rfl ?_
        first | (rw [if_neg (mxn b50 (by omega))] at hs; exact hs) | (rw [if_pos (mxy er b50 (by omega))] at hs; exact hs)
      · refine r_aload_n dX7_farthestEver_53 rfl ?_
        refine r_getR dX7_farthestEver_54 fl_X7_46 (ly_38 hE) rfl ?_
        refine r_iload_n dX7_farthestEver_57 rfl ?_
        refine r_ialdN dX7_farthestEver_58 (ly_48 hE) (by omega) (by decide) ?_
        refine r_rw (y := nI (farN S p a)) ((hfl.1 a ha1).trans hf.2) ?_
        refine r_goto (tgt := 63) dX7_farthestEver_59 (by decide) ?_
        refine r_istore_n (loc' := [(1, .int (nI (farN S p a))), (3, .int (nI a)), (2, .int (nI p)), (0, .ref 38)]) dX7_farthestEver_63 (by decide) rfl ?_
        refine r_iinc (v := (nI (a + 1))) (loc' := [(3, .int (nI (a + 1))), (1, .int (nI (farN S p a))), (2, .int (nI p)), (0, .ref 38)]) dX7_farthestEver_64 rfl ((nI_succ _).symm) (by decide) rfl ?_
        refine r_goto (tgt := 28) dX7_farthestEver_67 (by decide) ?_
        refine qG.pick [0, 1, 2, 3] rfl ?_
        first | (rw [if_neg (mxn b50 (by omega))] at hs; exact hs) | (rw [if_pos (mxy er b50 (by omega))] at hs; exact hs)
set_option maxRecDepth 100000 in
set_option maxHeartbeats 1000000 in
theorem mf_loop (hE : hM E) (hW : WfS S T n z) : ∀ (k p : Nat) (A : mA), p + k = n → RM A S T → (∀ A', FM A A' → Ph (some (.int (nI (feF S n)))) A' L) → qG E mm_X7_farthestEver (d + 6) 4 [(2, .int (nI p)), (1, .int (nI (feF S p))), (0, .ref 38)] [] A L Ph := by
  have hn := hW.2.2.2.2.1.1
  have h60 := hW.2.2.2.2.1.2.1
  intro k
  induction k with
  | zero =>
    intro p A hi hR h
    have hi : p = n := by omega
    subst hi
    refine r_iload_n dX7_farthestEver_4 rfl ?_
    refine r_aload_n dX7_farthestEver_5 rfl ?_
    refine r_callV0 dX7_farthestEver_6 lk_X7_94 (ly_38 hE) rfl (Nat.le_of_ble_eq_true rfl) (sp_X7_many hE ?_)
    refine r_rw (y := nI p) (by rw [hR.1]; exact h60) ?_
    refine r_icmp_ge (tgt := 76) dX7_farthestEver_9 (by decide) (fun _ => ?_) (fun hqz => absurd (nI_le (Nat.le_refl _) (by omega)) hqz)
    refine r_iload_n dX7_farthestEver_76 rfl ?_
    refine r_ireturn dX7_farthestEver_77 rfl rfl ?_
    exact h A FM.rf
  | succ k ih =>
    intro p A hi hR h
    have hp : p < n := by omega
    have ha := aP_ok hW hp
    have hs := ih (p + 1)
    have hb := feF_le hW p (by omega)
    rw [feF] at hs
    generalize feF S p = c at *
    refine r_iload_n dX7_farthestEver_4 rfl ?_
    refine r_aload_n dX7_farthestEver_5 rfl ?_
    refine r_callV0 dX7_farthestEver_6 lk_X7_94 (ly_38 hE) rfl (Nat.le_of_ble_eq_true rfl) (sp_X7_many hE ?_)
    refine r_rw (y := nI n) (by rw [hR.1]; exact h60) ?_
    refine r_icmp_ge (tgt := 76) dX7_farthestEver_9 (by decide) (fun hqz => absurd hqz (nI_ge hp (by omega))) (fun _ => ?_)
    refine r_aload_n dX7_farthestEver_12 rfl ?_
    refine r_iload_n dX7_farthestEver_13 rfl ?_
    refine r_callV1 dX7_farthestEver_14 lk_X7_239 (ly_38 hE) rfl (Nat.le_of_ble_eq_true rfl) (sp_fillM hE hW hR hp (fun A1 f1 hm hfl => ?_))
    refine r_aload_n dX7_farthestEver_17 rfl ?_
    refine r_aload_n dX7_farthestEver_18 rfl ?_
    refine r_iload_n dX7_farthestEver_19 rfl ?_
    refine r_callV1 dX7_farthestEver_20 lk_X7_101 (ly_38 hE) rfl (Nat.le_of_ble_eq_true rfl) (mo_an hE hW hm.rm hp ?_)
    refine r_rw (y := nI (aP S p)) ha.2 ?_
    refine r_callV1 dX7_farthestEver_23 lk_X7_245 (ly_38 hE) rfl (Nat.le_of_ble_eq_true rfl) (sp_reach hE ha.1 hfl (fun A2 f2 hbe => ?_))
    refine r_iconst (v := 0) dX7_farthestEver_26 rfl ?_
    refine r_istore_n (loc' := [(3, .int 0), (2, .int (nI p)), (1, .int (nI c)), (0, .ref 38)]) dX7_farthestEver_27 (by decide) rfl ?_
    refine qG.pick [0, 2, 1, 3] rfl ?_
    refine mf_in hE hW hp hb (hfl.fr (f2 47 (by decide)) (f2 48 (by decide))) hbe ?_ 100 0 (by omega)
    refine r_iinc (v := (nI (p + 1))) (loc' := [(2, .int (nI (p + 1))), (1, .int (nI (mxc (rbP S p) (farN S p) c 100))), (0, .ref 38)]) dX7_farthestEver_70 rfl ((nI_succ _).symm) (by decide) rfl ?_
    refine r_goto (tgt := 4) dX7_farthestEver_73 (by decide) ?_
    refine qG.pick [0, 1, 2] rfl ?_
    have fm := f1.tr (FM.of f2 (by decide))
    exact hs A2 (by omega) (hR.fm fm) (fun A' f => h A' (fm.tr f))
set_option maxRecDepth 100000 in
set_option maxHeartbeats 1000000 in
theorem sp_farthestEver (hE : hM E) (hW : WfS S T n z) (hR : RM A S T) (h : ∀ A', FM A A' → Ph (some (.int (nI (feF S n)))) A' L) : qC E mm_X7_farthestEver (d + 6) [.ref 38] A L Ph := by
  refine qC.enter (by decide) (Nat.le_of_ble_eq_true rfl) ?_
  refine r_iconst (v := 0) dX7_farthestEver_0 rfl ?_
  refine r_istore_n (loc' := [(1, .int 0), (0, .ref 38)]) dX7_farthestEver_1 (by decide) rfl ?_
  refine r_iconst (v := 0) dX7_farthestEver_2 rfl ?_
  refine r_istore_n (loc' := [(2, .int 0), (1, .int 0), (0, .ref 38)]) dX7_farthestEver_3 (by decide) rfl ?_
  refine qG.pick [0, 1, 2] rfl ?_
  exact mf_loop hE hW n 0 A (by omega) hR h
end RWO
