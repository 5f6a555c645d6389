/-! the class's spread over the memory -/
def gP (S : mA) (p a w : Nat) : Nat := (bwP S p (nI a) (nI w)).toNatClampNeg
def aP (S : mA) (p : Nat) : Nat := (anP S p).toNatClampNeg
theorem gP_ok (S : mA) (p a w : Nat) : gP S p a w < 100 ∧ bwP S p (nI a) (nI w) = nI (gP S p a w) := by
  obtain ⟨j, hj, e⟩ := bw_ok (S := S) (p := p) (nI a) (nI w)
  unfold gP
  rw [e, nI_clamp (by omega)]
  exact ⟨hj, rfl⟩
theorem aP_ok {S : mA} {T n z p : Nat} (hW : WfS S T n z) (hp : p < n) : aP S p < 100 ∧ anP S p = nI (aP S p) := by
  obtain ⟨j, hj, e⟩ := anP_ok hW hp
  unfold aP
  rw [e, nI_clamp (by omega)]
  exact ⟨hj, rfl⟩
abbrev eP (S : mA) (p K : Nat) : Nat := en (gP S p) (aP S p) K
theorem eP_lt {S : mA} {T n z p : Nat} (hW : WfS S T n z) (hp : p < n) (K : Nat) : eP S p K < 100 := en_lt (fun a w _ _ => (gP_ok S p a w).1) (aP_ok hW hp).1 K
def RI (A S : mA) (p sz : Nat) (ks : Nat → Nat) : Prop := A 6 7 = nI sz ∧ BI (gP S p) (aP S p) (A 27) (A 28) (A 29) (A 30) sz ks
def NX (A S : mA) (p i w : Nat) (ks : Nat → Nat) : Prop := (∀ j v, j < i → v < 6 → A 31 (6 * eP S p (ks j) + v) = nI (gP S p (eP S p (ks j)) v)) ∧ ∀ v, v < w → A 31 (6 * eP S p (ks i) + v) = nI (gP S p (eP S p (ks i)) v)
def RS (A S : mA) (p sz : Nat) (ks : Nat → Nat) : Prop := RI A S p sz ks ∧ (∀ K, ∃ j, j < sz ∧ eP S p K = eP S p (ks j) ∧ ks j ≤ K) ∧ ∀ j v, j < sz → v < 6 → A 31 (6 * eP S p (ks j) + v) = nI (gP S p (eP S p (ks j)) v)
abbrev xR : List Nat := [5, 6, 24, 26, 27, 28, 29, 30, 31]
theorem RI.fr {A A' S : mA} {p sz : Nat} {ks : Nat → Nat} {X : List Nat} (h : RI A S p sz ks) (hf : Fr X A A') (h6 : 6 ∉ X) (h27 : 27 ∉ X) (h28 : 28 ∉ X) (h29 : 29 ∉ X) (h30 : 30 ∉ X) : RI A' S p sz ks := by
  unfold RI at *
  rw [hf 6 h6, hf 27 h27, hf 28 h28, hf 29 h29, hf 30 h30]
  exact h
theorem RI.t {A A' S : mA} {p sz : Nat} {ks : Nat → Nat} (h : RI A S p sz ks) (hf : Fr [5, 24, 26] A A') : RI A' S p sz ks := h.fr hf (by decide) (by decide) (by decide) (by decide) (by decide)
theorem RS.t {A A' S : mA} {p sz : Nat} {ks : Nat → Nat} (h : RS A S p sz ks) (hf : Fr [5, 24, 26] A A') : RS A' S p sz ks := ⟨h.1.t hf, h.2.1, by rw [hf 31 (by decide)]; exact h.2.2⟩
theorem NX.fr {A A' S : mA} {p i w : Nat} {ks : Nat → Nat} (h : NX A S p i w ks) (hf : A' 31 = A 31) : NX A' S p i w ks := by
  unfold NX at *
  rw [hf]
  exact h
theorem NX.ks {A S : mA} {p i w : Nat} {ks ks' : Nat → Nat} (h : NX A S p i w ks) (hk : ∀ j, j ≤ i → ks' j = ks j) : NX A S p i w ks' := by
  refine ⟨fun j v hj hv => ?_, fun v hv => ?_⟩
  · rw [hk j (by omega)]; exact h.1 j v hj hv
  · rw [hk i (Nat.le_refl _)]; exact h.2 v hv
theorem CE.fx {E : mE} {A A' S : mA} {T r : Nat} {kd nr : Int32} (h : CE E A S T r kd nr) (hf : Fr [6, 27, 28, 29, 30, 31] A A') : CE E A' S T r kd nr := by
  obtain ⟨h1, h2, h3, h4, h5, h6, h7⟩ := h
  refine ⟨h1, ?_, h3, h4, h5, ?_, h7⟩
  · unfold RCt at *
    rw [hf 3 (by decide), hf 22 (by decide), hf 23 (by decide)]
    exact h2
  · unfold TS at *
    rw [hf 5 (by decide), hf 26 (by decide)]
    exact h6
/-- the memory behind a first meeting -/
def mtA (A : mA) (y sz : Nat) (dv b w : Int32) : mA := s2 (s2 (s2 (s2 (s2 A 28 y dv) 29 y b) 30 y w) 27 sz (nI y)) 6 7 (nI (sz + 1))
theorem mtA_fr {A : mA} {y sz : Nat} {dv b w : Int32} : Fr [6, 27, 28, 29, 30, 31] A (mtA A y sz dv b w) := (Fr.s2 (by decide)).tr ((Fr.s2 (by decide)).tr ((Fr.s2 (by decide)).tr ((Fr.s2 (by decide)).tr (Fr.s2 (by decide)))))
theorem mtA_31 {A : mA} {y sz : Nat} {dv b w : Int32} : mtA A y sz dv b w 31 = A 31 := by
  unfold mtA
  rw [s2_ne (by decide), s2_ne (by decide), s2_ne (by decide), s2_ne (by decide), s2_ne (by decide)]
theorem mtA_c {A : mA} {y sz : Nat} {dv b w : Int32} : mtA A y sz dv b w 6 7 = nI (sz + 1) ∧ mtA A y sz dv b w 27 = upd (A 27) sz (nI y) ∧ mtA A y sz dv b w 28 = upd (A 28) y dv ∧ mtA A y sz dv b w 29 = upd (A 29) y b ∧ mtA A y sz dv b w 30 = upd (A 30) y w := by
  unfold mtA
  refine ⟨s2_same, ?_, ?_, ?_, ?_⟩
  · rw [s2_ne (by decide), s2_eq, s2_ne (by decide), s2_ne (by decide), s2_ne (by decide)]
  · rw [s2_ne (by decide), s2_ne (by decide), s2_ne (by decide), s2_ne (by decide), s2_eq]
  · rw [s2_ne (by decide), s2_ne (by decide), s2_ne (by decide), s2_eq, s2_ne (by decide)]
  · rw [s2_ne (by decide), s2_ne (by decide), s2_eq, s2_ne (by decide), s2_ne (by decide)]
theorem BI.dep {g : Nat → Nat → Nat} {a0 sz : Nat} {ord dp fr bw : Nat → Int32} {ks : Nat → Nat} (h : BI g a0 ord dp fr bw sz ks) {i : Nat} (hi : i < sz) (he : en g a0 (ks i) < 100) : dp (en g a0 (ks i)) = nI (ln (ks i)) := by
  rcases h.2.2.2.2.1 _ he with ⟨_, q⟩ | ⟨j, hj, e, q⟩
  · exact absurd rfl (q i hi)
  · rw [h.2.2.2.1 j i hj hi e] at q
    exact q
theorem RI.new {A S : mA} {p sz i w x y : Nat} {ks : Nat → Nat} (h : RI A S p sz ks) (hi : i < sz) (hw : w < 6) (hx : eP S p (ks i) = x) (hy : gP S p x w = y) (hx1 : x < 100) (hy1 : y < 100) (hc : CV (gP S p) (aP S p) sz ks (6 * ks i + w + 1)) (hd : A 28 y = -1) : ∃ ks' : Nat → Nat, (∀ j, j < sz → ks' j = ks j) ∧ RI (mtA A y sz (A 28 x + 1) (nI x) (nI w)) S p (sz + 1) ks' ∧ CV (gP S p) (aP S p) (sz + 1) ks' (6 * ks' i + (w + 1) + 1) := by
  have ey : en (gP S p) (aP S p) (6 * ks i + w + 1) = y := by rw [en_s hw, ← hy, ← hx]
  have hn := h.2.new hi hw (by rw [ey]; exact hy1) hc (by rw [ey]; exact hd)
  obtain ⟨ks', hk⟩ : ∃ ks' : Nat → Nat, ks' = fun j => if j = sz then 6 * ks i + w + 1 else ks j := ⟨_, rfl⟩
  rw [← hk, ey] at hn
  have hkj : ∀ j, j < sz → ks' j = ks j := by
    intro j hj
    rw [hk]
    exact if_neg (by omega)
  refine ⟨ks', hkj, ⟨mtA_c.1, ?_⟩, ?_⟩
  · rw [mtA_c.2.1, mtA_c.2.2.1, mtA_c.2.2.2.1, mtA_c.2.2.2.2]
    have e := h.2.dep hi (by rw [show en (gP S p) (aP S p) (ks i) = x from hx]; exact hx1)
    rw [show en (gP S p) (aP S p) (ks i) = x from hx] at e hn
    rw [e, nI_1]
    exact hn.1
  · rw [hkj i hi, show 6 * ks i + (w + 1) + 1 = 6 * ks i + w + 1 + 1 by omega]
    exact hn.2
theorem RI.old {A S : mA} {p sz i w x y : Nat} {ks : Nat → Nat} (h : RI A S p sz ks) (hw : w < 6) (hx : eP S p (ks i) = x) (hy : gP S p x w = y) (hy1 : y < 100) (hc : CV (gP S p) (aP S p) sz ks (6 * ks i + w + 1)) (hd : ¬ A 28 y = -1) : CV (gP S p) (aP S p) sz ks (6 * ks i + (w + 1) + 1) := by
  have ey : en (gP S p) (aP S p) (6 * ks i + w + 1) = y := by rw [en_s hw, ← hy, ← hx]
  exact h.2.old (B := 6 * ks i + w + 1) (by rw [ey]; exact hy1) hc (by rw [ey]; exact hd)
theorem RI.step {A S : mA} {p sz i : Nat} {ks : Nat → Nat} (h : RI A S p sz ks) (hc : CV (gP S p) (aP S p) sz ks (6 * ks i + 5 + 1 + 1)) : (i + 1 < sz → CV (gP S p) (aP S p) sz ks (6 * ks (i + 1) + 1)) ∧ (i + 1 = sz → ∀ K, ∃ j, j < sz ∧ eP S p K = eP S p (ks j) ∧ ks j ≤ K) := by
  refine ⟨fun hi => ⟨fun j hj => ?_, h.2.next hi hc⟩, fun hi => h.2.all hi hc⟩
  have h1 := hc.1 j hj
  have h2 := h.2.2.2.1 i (i + 1) (by omega) hi
  omega
theorem NX.put {A A1 S : mA} {p sz i w x y : Nat} {ks : Nat → Nat} (h : NX A S p i w ks) (hri : RI A S p sz ks) (hi : i < sz) (hw : w < 6) (hx : eP S p (ks i) = x) (hy : gP S p x w = y) (hf : A1 31 = A 31) : NX (s2 A1 31 (6 * x + w) (nI y)) S p i (w + 1) ks := by
  refine ⟨fun j v hj hv => ?_, fun v hv => ?_⟩
  · have hne : eP S p (ks j) ≠ x := by
      rw [← hx]
      intro q
      have := hri.2.2.2.2.1 j i (by omega) hi q
      omega
    rw [s2_nj (fun _ => by omega), hf]
    exact h.1 j v hj hv
  · rw [hx]
    by_cases e : v = w
    · rw [e, s2_same, hy]
    · rw [s2_nj (fun _ => by omega), hf]
      have := h.2 v (by omega)
      rw [hx] at this
      exact this
/-- the start -/
theorem RI.one {A S : mA} {p : Nat} (h28 : ∀ a, a < 100 → A 28 a = -1) (ha : aP S p < 100) : RI (mtA A (aP S p) 0 0 (-1) (-1)) S p 1 (fun _ => 0) ∧ CV (gP S p) (aP S p) 1 (fun _ => 0) (6 * 0 + 0 + 1) := by
  refine ⟨⟨mtA_c.1, ⟨⟨by decide, by decide, rfl⟩, ?_, ?_, ?_, ?_, ?_, ?_⟩⟩, ?_, ?_⟩
  · intro i hi
    rw [mtA_c.2.1, show i = 0 by omega, upd_eq, en_0]
  · intro i j hij hj; omega
  · intro i j hi hj _; omega
  · intro a ha'
    rw [mtA_c.2.2.1]
    by_cases e : a = aP S p
    · exact Or.inr ⟨0, by decide, by rw [en_0]; exact e.symm, by rw [e, upd_eq, ln_0]; rfl⟩
    · refine Or.inl ⟨by rw [u_no e]; exact h28 a ha', fun i _ => ?_⟩
      rw [en_0]; exact fun z => e z.symm
  · intro i h0 hi; omega
  · rw [mtA_c.2.2.1]
    have := sm_one (f := fun a => nn (A 28 a)) (h := fun a => nn (upd (A 28) (aP S p) 0 a)) (a := aP S p) (fun x hx => by show nn (upd (A 28) (aP S p) 0 x) = nn (A 28 x); rw [u_no hx]) 100 ha
    have z0 : sm (fun a => nn (A 28 a)) 100 = 0 := by
      have : ∀ k, k ≤ 100 → sm (fun a => nn (A 28 a)) k = 0 := by
        intro k
        induction k with
        | zero => intro _; rfl
        | succ k ih =>
          intro hk
          rw [sm, ih (by omega)]
          show 0 + nn (A 28 k) = 0
          rw [h28 k (by omega)]
          rfl
      exact this 100 (Nat.le_refl _)
    rw [z0] at this
    have n1 : nn (upd (A 28) (aP S p) 0 (aP S p)) = 1 := by rw [upd_eq]; rfl
    have n0 : nn (A 28 (aP S p)) = 0 := by rw [h28 _ ha]; rfl
    simp only [n1, n0] at this
    omega
  · intro j hj
    exact Nat.zero_lt_succ _
  · intro K hK
    exact ⟨0, by decide, by rw [show K = 0 by omega], Nat.zero_le _⟩
section RCH
variable {E : mE} {d : Nat} {A S : mA} {L : mJ} {Ph : mP} {T n z p : Nat}
set_option maxRecDepth 100000 in
set_option maxHeartbeats 1000000 in
theorem fillk_loop {k : Nat} (hk : (mly E)[k]? = some (.inl (0, 100, []))) {v : Int32} (h : Ph none (va_up A k (fa_fill (fun _ => v) (A k) 100)) L) : ∀ (m i : Nat), i + m = 100 → qG E mm_J7_fill_53178 d 5 [(3, .int 100), (2, .int (nI i)), (0, .ref k), (1, .int v)] [] (va_up A k (fa_fill (fun _ => v) (A k) i)) L Ph := by
  intro m
  induction m with
  | zero =>
    intro i hi
    have hi : i = 100 := by omega
    subst hi
    refine r_iload_n dJ7_fill_53178_5 rfl ?_
    refine r_iload_n dJ7_fill_53178_6 rfl ?_
    refine r_icmp_ge (tgt := 20) dJ7_fill_53178_7 (by decide) (fun _ => ?_) (fun hqz => absurd (nI_le (Nat.le_refl 100) (by decide)) hqz)
    refine r_return dJ7_fill_53178_20 rfl ?_
    exact h
  | succ m ih =>
    intro i hi
    refine r_iload_n dJ7_fill_53178_5 rfl ?_
    refine r_iload_n dJ7_fill_53178_6 rfl ?_
    refine r_icmp_ge (tgt := 20) dJ7_fill_53178_7 (by decide) (fun hqz => absurd hqz (nI_ge (show i < 100 by omega) (by decide))) (fun _ => ?_)
    refine r_aload_n dJ7_fill_53178_10 rfl ?_
    refine r_iload_n dJ7_fill_53178_11 rfl ?_
    refine r_iload_n dJ7_fill_53178_12 rfl ?_
    refine r_iastN dJ7_fill_53178_13 hk (by omega) (by decide) ?_
    refine r_iinc (v := (nI (i + 1))) (loc' := [(2, .int (nI (i + 1))), (3, .int 100), (0, .ref k), (1, .int v)]) dJ7_fill_53178_14 rfl ((nI_succ _).symm) (by decide) rfl ?_
    refine r_goto (tgt := 5) dJ7_fill_53178_17 (by decide) ?_
    refine qG.pick [1, 0, 2, 3] rfl ?_
    rw [s2_up, fa_fill_succ (fun _ => v)]
    exact ih (i + 1) (by omega)
set_option maxRecDepth 100000 in
set_option maxHeartbeats 1000000 in
theorem sp_fillk {k : Nat} (hk : (mly E)[k]? = some (.inl (0, 100, []))) {v : Int32} (h : Ph none (va_up A k (fa_fill (fun _ => v) (A k) 100)) L) : qC E mm_J7_fill_53178 d [.ref k, .int v] A L Ph := by
  refine qC.enter (by decide) (Nat.le_of_ble_eq_true rfl) ?_
  refine r_iconst (v := 0) dJ7_fill_53178_0 rfl ?_
  refine r_istore_n (loc' := [(2, .int 0), (0, .ref k), (1, .int v)]) dJ7_fill_53178_1 (by decide) rfl ?_
  refine r_aload_n dJ7_fill_53178_2 rfl ?_
  refine r_alen (v := 100) dJ7_fill_53178_3 hk (by decide) rfl ?_
  refine r_istore_n (loc' := [(3, .int 100), (2, .int 0), (0, .ref k), (1, .int v)]) dJ7_fill_53178_4 (by decide) rfl ?_
  refine qG.pick [0, 1, 2, 3] rfl ?_
  have K := fillk_loop (d := d) hk h 100 0 (by decide)
  rw [fa_fill_0, up_self] at K
  exact K
set_option maxRecDepth 100000 in
set_option maxHeartbeats 1000000 in
theorem meet_c (hE : hC E) {x y sz : Nat} {v : Int32} (hy : y < 100) (hx : x < 100) (hsz : A 6 7 = nI sz) (hr : A 28 y = -1 → sz < 100) (h1 : ¬ A 28 y = -1 → Ph none A L) (h2 : A 28 y = -1 → Ph none (mtA A y sz (A 28 x + 1) (nI x) v) L) : qC E mm_X0_meet (d + 1) [.ref 6, .int (nI y), .int (nI x), .int v] A L Ph := by
  by_cases hd : A 28 y = -1
  · have hs1 := hr hd
    have h := h2 hd
    refine qC.enter (by decide) (Nat.le_of_ble_eq_true rfl) ?_
    refine r_iload_n dX0_meet_0 rfl ?_
    refine r_bipush (v := 100) dX0_meet_1 rfl ?_
    refine r_callN2 dX0_meet_3 lk_X0_64 (Nat.le_of_ble_eq_true rfl) (win_t (lim := 100) rfl (by decide) hy ?_)
    refine r_if_eq (tgt := 31) dX0_meet_6 (by decide) (fun hqz => absurd hqz (by decide)) (fun _ => ?_)
    refine r_aload_n dX0_meet_9 rfl ?_
    refine r_getR dX0_meet_10 fl_X0_15 (ly_6 hE) rfl ?_
    refine r_iload_n dX0_meet_13 rfl ?_
    refine r_ialdN dX0_meet_14 (ly_28 hE) (by omega) (by decide) ?_
    refine r_iconst (v := (-1)) dX0_meet_15 rfl ?_
    refine r_icmp_ne (tgt := 31) dX0_meet_16 (by decide) (fun hqz => absurd hd hqz) (fun _ => ?_)
    refine r_aload_n dX0_meet_19 rfl ?_
    refine r_getI dX0_meet_20 fl_X0_46 (ly_6 hE) rfl ?_
    refine r_rw (y := nI sz) (by exact hsz) ?_
    refine r_bipush (v := 100) dX0_meet_23 rfl ?_
    refine r_callN2 dX0_meet_25 lk_X0_64 (Nat.le_of_ble_eq_true rfl) (win_t (lim := 100) rfl (by decide) hs1 ?_)
    refine r_if_ne (tgt := 32) dX0_meet_28 (by decide) (fun _ => ?_) (fun hqz => absurd hqz (by decide))
    refine r_aload_n dX0_meet_32 rfl ?_
    refine r_getR dX0_meet_33 fl_X0_15 (ly_6 hE) rfl ?_
    refine r_iload_n dX0_meet_36 rfl ?_
    refine r_iload_n dX0_meet_37 rfl ?_
    refine r_bipush (v := 100) dX0_meet_38 rfl ?_
    refine r_callN2 dX0_meet_40 lk_X0_64 (Nat.le_of_ble_eq_true rfl) (win_t (lim := 100) rfl (by decide) hx ?_)
    refine r_if_eq (tgt := 57) dX0_meet_43 (by decide) (fun hqz => absurd hqz (by decide)) (fun _ => ?_)
    refine r_aload_n dX0_meet_46 rfl ?_
    refine r_getR dX0_meet_47 fl_X0_15 (ly_6 hE) rfl ?_
    refine r_iload_n dX0_meet_50 rfl ?_
    refine r_ialdN dX0_meet_51 (ly_28 hE) (by omega) (by decide) ?_
    refine r_iconst (v := 1) dX0_meet_52 rfl ?_
    refine r_iadd dX0_meet_53 ?_
    refine r_goto (tgt := 58) dX0_meet_54 (by decide) ?_
    refine r_iastN dX0_meet_58 (ly_28 hE) (by omega) (by decide) ?_
    refine r_aload_n dX0_meet_59 rfl ?_
    refine r_getR dX0_meet_60 fl_X0_18 (ly_6 hE) rfl ?_
    refine r_iload_n dX0_meet_63 rfl ?_
    refine r_iload_n dX0_meet_64 rfl ?_
    refine r_iastN dX0_meet_65 (ly_29 hE) (by omega) (by decide) ?_
    refine r_aload_n dX0_meet_66 rfl ?_
    refine r_getR dX0_meet_67 fl_X0_21 (ly_6 hE) rfl ?_
    refine r_iload_n dX0_meet_70 rfl ?_
    refine r_iload_n dX0_meet_71 rfl ?_
    refine r_iastN dX0_meet_72 (ly_30 hE) (by omega) (by decide) ?_
    refine r_aload_n dX0_meet_73 rfl ?_
    refine r_getR dX0_meet_74 fl_X0_9 (ly_6 hE) rfl ?_
    refine r_aload_n dX0_meet_77 rfl ?_
    refine r_getI dX0_meet_78 fl_X0_46 (ly_6 hE) rfl ?_
    refine r_rw (y := nI sz) (by rw [s2_ne (by decide), s2_ne (by decide), s2_ne (by decide)]; exact hsz) ?_
    refine r_iload_n dX0_meet_81 rfl ?_
    refine r_iastN dX0_meet_82 (ly_27 hE) (by omega) (by decide) ?_
    refine r_aload_n dX0_meet_83 rfl ?_
    refine r_dup dX0_meet_84 rfl ?_
    refine r_getI dX0_meet_85 fl_X0_46 (ly_6 hE) rfl ?_
    refine r_rw (y := nI sz) (by rw [s2_ne (by decide), s2_ne (by decide), s2_ne (by decide), s2_ne (by decide)]; exact hsz) ?_
    refine r_iconst (v := 1) dX0_meet_88 rfl ?_
    refine r_iadd dX0_meet_89 ?_
    refine r_rw (y := nI (sz + 1)) (nI_1 _) ?_
    refine r_putI dX0_meet_90 fl_X0_46 fp_0_7 (ly_6 hE) rfl rfl rfl ?_
    refine r_return dX0_meet_93 rfl ?_
    exact h
  · have h := h1 hd
    refine qC.enter (by decide) (Nat.le_of_ble_eq_true rfl) ?_
    refine r_iload_n dX0_meet_0 rfl ?_
    refine r_bipush (v := 100) dX0_meet_1 rfl ?_
    refine r_callN2 dX0_meet_3 lk_X0_64 (Nat.le_of_ble_eq_true rfl) (win_t (lim := 100) rfl (by decide) hy ?_)
    refine r_if_eq (tgt := 31) dX0_meet_6 (by decide) (fun hqz => absurd hqz (by decide)) (fun _ => ?_)
    refine r_aload_n dX0_meet_9 rfl ?_
    refine r_getR dX0_meet_10 fl_X0_15 (ly_6 hE) rfl ?_
    refine r_iload_n dX0_meet_13 rfl ?_
    refine r_ialdN dX0_meet_14 (ly_28 hE) (by omega) (by decide) ?_
    refine r_iconst (v := (-1)) dX0_meet_15 rfl ?_
    refine r_icmp_ne (tgt := 31) dX0_meet_16 (by decide) (fun _ => ?_) (fun hqz => absurd hqz hd)
    refine r_return dX0_meet_31 rfl ?_
    exact h
set_option maxRecDepth 100000 in
set_option maxHeartbeats 1000000 in
theorem meet_0 (hE : hC E) {y sz : Nat} {v : Int32} (hy : y < 100) (hsz : A 6 7 = nI sz) (hs1 : sz < 100) (hd : A 28 y = -1) (h : Ph none (mtA A y sz 0 (-1) v) L) : qC E mm_X0_meet (d + 1) [.ref 6, .int (nI y), .int (-1), .int v] A L Ph := by
  refine qC.enter (by decide) (Nat.le_of_ble_eq_true rfl) ?_
  refine r_iload_n dX0_meet_0 rfl ?_
  refine r_bipush (v := 100) dX0_meet_1 rfl ?_
  refine r_callN2 dX0_meet_3 lk_X0_64 (Nat.le_of_ble_eq_true rfl) (win_t (lim := 100) rfl (by decide) hy ?_)
  refine r_if_eq (tgt := 31) dX0_meet_6 (by decide) (fun hqz => absurd hqz (by decide)) (fun _ => ?_)
  refine r_aload_n dX0_meet_9 rfl ?_
  refine r_getR dX0_meet_10 fl_X0_15 (ly_6 hE) rfl ?_
  refine r_iload_n dX0_meet_13 rfl ?_
  refine r_ialdN dX0_meet_14 (ly_28 hE) (by omega) (by decide) ?_
  refine r_iconst (v := (-1)) dX0_meet_15 rfl ?_
  refine r_icmp_ne (tgt := 31) dX0_meet_16 (by decide) (fun hqz => absurd hd hqz) (fun _ => ?_)
  refine r_aload_n dX0_meet_19 rfl ?_
  refine r_getI dX0_meet_20 fl_X0_46 (ly_6 hE) rfl ?_
  refine r_rw (y := nI sz) (by exact hsz) ?_
  refine r_bipush (v := 100) dX0_meet_23 rfl ?_
  refine r_callN2 dX0_meet_25 lk_X0_64 (Nat.le_of_ble_eq_true rfl) (win_t (lim := 100) rfl (by decide) hs1 ?_)
  refine r_if_ne (tgt := 32) dX0_meet_28 (by decide) (fun _ => ?_) (fun hqz => absurd hqz (by decide))
  refine r_aload_n dX0_meet_32 rfl ?_
  refine r_getR dX0_meet_33 fl_X0_15 (ly_6 hE) rfl ?_
  refine r_iload_n dX0_meet_36 rfl ?_
  refine r_iload_n dX0_meet_37 rfl ?_
  refine r_bipush (v := 100) dX0_meet_38 rfl ?_
  refine r_callN2 dX0_meet_40 lk_X0_64 (Nat.le_of_ble_eq_true rfl) (win_f 100 rfl (by decide) (fun j hj e => nI_nm1 (by omega) e.symm) ?_)
  refine r_if_eq (tgt := 57) dX0_meet_43 (by decide) (fun _ => ?_) (fun hqz => absurd (by decide) hqz)
  refine r_iconst (v := 0) dX0_meet_57 rfl ?_
  refine r_iastN dX0_meet_58 (ly_28 hE) (by omega) (by decide) ?_
  refine r_aload_n dX0_meet_59 rfl ?_
  refine r_getR dX0_meet_60 fl_X0_18 (ly_6 hE) rfl ?_
  refine r_iload_n dX0_meet_63 rfl ?_
  refine r_iload_n dX0_meet_64 rfl ?_
  refine r_iastN dX0_meet_65 (ly_29 hE) (by omega) (by decide) ?_
  refine r_aload_n dX0_meet_66 rfl ?_
  refine r_getR dX0_meet_67 fl_X0_21 (ly_6 hE) rfl ?_
  refine r_iload_n dX0_meet_70 rfl ?_
  refine r_iload_n dX0_meet_71 rfl ?_
  refine r_iastN dX0_meet_72 (ly_30 hE) (by omega) (by decide) ?_
  refine r_aload_n dX0_meet_73 rfl ?_
  refine r_getR dX0_meet_74 fl_X0_9 (ly_6 hE) rfl ?_
  refine r_aload_n dX0_meet_77 rfl ?_
  refine r_getI dX0_meet_78 fl_X0_46 (ly_6 hE) rfl ?_
  refine r_rw (y := nI sz) (by rw [s2_ne (by decide), s2_ne (by decide), s2_ne (by decide)]; exact hsz) ?_
  refine r_iload_n dX0_meet_81 rfl ?_
  refine r_iastN dX0_meet_82 (ly_27 hE) (by omega) (by decide) ?_
  refine r_aload_n dX0_meet_83 rfl ?_
  refine r_dup dX0_meet_84 rfl ?_
  refine r_getI dX0_meet_85 fl_X0_46 (ly_6 hE) rfl ?_
  refine r_rw (y := nI sz) (by rw [s2_ne (by decide), s2_ne (by decide), s2_ne (by decide), s2_ne (by decide)]; exact hsz) ?_
  refine r_iconst (v := 1) dX0_meet_88 rfl ?_
  refine r_iadd dX0_meet_89 ?_
  refine r_rw (y := nI (sz + 1)) (nI_1 _) ?_
  refine r_putI dX0_meet_90 fl_X0_46 fp_0_7 (ly_6 hE) rfl rfl rfl ?_
  refine r_return dX0_meet_93 rfl ?_
  exact h
set_option maxRecDepth 100000 in
set_option maxHeartbeats 1000000 in
theorem si_loop (hW : WfS S T n z) (hp : p < n) {i : Nat} : ∀ (k w sz : Nat) (ks : Nat → Nat) (A : mA), w + k = 6 → i < sz → CE E A S T (rF S) (kdP S p) (nrP S p) → RI A S p sz ks → NX A S p i w ks → CV (gP S p) (aP S p) sz ks (6 * ks i + w + 1) → (∀ A' sz' ks', Fr xR A A' → i < sz' → CE E A' S T (rF S) (kdP S p) (nrP S p) → RI A' S p sz' ks' → NX A' S p (i + 1) 0 ks' → CV (gP S p) (aP S p) sz' ks' (6 * ks' i + 5 + 1 + 1) → qG E mm_X0_spread (d + 4) 109 [(4, .int (nI i)), (0, .ref 6), (1, .ref 5), (2, .ref 1), (3, .int (nI p))] [] A' L Ph) → qG E mm_X0_spread (d + 4) 61 [(6, .int (nI w)), (5, .int (nI (eP S p (ks i)))), (4, .int (nI i)), (0, .ref 6), (1, .ref 5), (2, .ref 1), (3, .int (nI p))] [] A L Ph := by
  intro k
  induction k with
  | zero =>
    intro w sz ks A hw hi hc hri hnx hcv h
    have hE := hc.1
    have hw : w = 6 := by omega
    subst hw
    refine r_iload dX0_spread_61 rfl ?_
    refine r_bipush (v := 6) dX0_spread_63 rfl ?_
    refine r_icmp_ge (tgt := 109) dX0_spread_65 (by decide) (fun _ => ?_) (fun hqz => absurd (nI_le (Nat.le_refl 6) (by decide)) hqz)
    refine qG.pick [2, 3, 4, 5, 6] rfl ?_
    refine h A sz ks Fr.rf hi hc hri ⟨fun j v hj hv => ?_, fun v hv => absurd hv (Nat.not_lt_zero _)⟩ hcv
    rcases Nat.lt_or_ge j i with q | q
    · exact hnx.1 j v q hv
    · rw [show j = i by omega]
      exact hnx.2 v hv
  | succ k ih =>
    intro w sz ks A hw hi hc hri hnx hcv h
    have hE := hc.1
    have hw6 : w < 6 := by omega
    have hx1 := eP_lt hW hp (ks i)
    obtain ⟨x, hx⟩ : ∃ x, eP S p (ks i) = x := ⟨_, rfl⟩
    obtain ⟨y, hy⟩ : ∃ y, gP S p x w = y := ⟨_, rfl⟩
    have hy1 : y < 100 := by rw [← hy]; exact (gP_ok S p x w).1
    rw [hx] at hx1
    rw [hx]
    refine r_iload dX0_spread_61 rfl ?_
    refine r_bipush (v := 6) dX0_spread_63 rfl ?_
    refine r_icmp_ge (tgt := 109) dX0_spread_65 (by decide) (fun hqz => absurd hqz (nI_ge hw6 (by decide))) (fun _ => ?_)
    refine r_aload_n dX0_spread_68 rfl ?_
    refine r_iload dX0_spread_69 rfl ?_
    refine r_iload dX0_spread_71 rfl ?_
    refine r_callV2 dX0_spread_73 lk_X0_60 (ly_5 hE) rfl (Nat.le_of_ble_eq_true rfl) (sp_X4_heated hc (fun A1 f1 => ?_))
    refine r_rw (y := nI y) (by rw [← hy]; exact (gP_ok S p x w).2) ?_
    refine r_istore (loc' := [(7, .int (nI y)), (6, .int (nI w)), (5, .int (nI x)), (4, .int (nI i)), (0, .ref 6), (1, .ref 5), (2, .ref 1), (3, .int (nI p))]) dX0_spread_76 (by decide) rfl ?_
    refine r_aload_n dX0_spread_78 rfl ?_
    refine r_getR dX0_spread_79 fl_X0_24 (ly_6 hE) rfl ?_
    refine r_iload dX0_spread_82 rfl ?_
    refine r_bipush (v := 6) dX0_spread_84 rfl ?_
    refine r_imul dX0_spread_86 ?_
    refine r_iload dX0_spread_87 rfl ?_
    refine r_iadd dX0_spread_89 ?_
    refine r_rw (y := nI (6 * x + w)) (show nI x * nI 6 + nI w = _ by rw [pk_mul, nI_add]; congr 1; omega) ?_
    refine r_iload dX0_spread_90 rfl ?_
    refine r_iastN dX0_spread_92 (ly_31 hE) (by omega) (by decide) ?_
    have hc2 := (hc.fr f1).fx (Fr.s2 (A := A1) (k := 31) (j := 6 * x + w) (v := nI y) (by decide))
    have hri2 := (hri.t f1.t).fr (Fr.s2 (X := [31]) (A := A1) (k := 31) (j := 6 * x + w) (v := nI y) (by decide)) (by decide) (by decide) (by decide) (by decide) (by decide)
    have hnx2 : NX (s2 A1 31 (6 * x + w) (nI y)) S p i (w + 1) ks := hnx.put hri hi hw6 hx hy (f1.t 31 (by decide))
    have hfr : Fr xR A (s2 A1 31 (6 * x + w) (nI y)) := (f1.t.mo (by decide)).tr (Fr.s2 (by decide))
    generalize s2 A1 31 (6 * x + w) (nI y) = A2 at hc2 hri2 hnx2 hfr ⊢
    refine r_aload_n dX0_spread_93 rfl ?_
    refine r_iload dX0_spread_94 rfl ?_
    refine r_iload dX0_spread_96 rfl ?_
    refine r_iload dX0_spread_98 rfl ?_
    refine r_callV3 dX0_spread_100 lk_X0_56 (ly_6 hE) rfl (Nat.le_of_ble_eq_true rfl) (meet_c hE hy1 hx1 hri2.1 (fun hd => hri2.2.room hy1 hd) (fun hd => ?_) (fun hd => ?_))
    · have K := ih (w + 1) sz ks A2 (by omega) hi hc2 hri2 hnx2 (hri2.old hw6 hx hy hy1 hcv hd) (fun A' sz' ks' f => h A' sz' ks' (hfr.tr f))
      rw [hx] at K
      refine r_iinc (v := (nI (w + 1))) (loc' := [(6, .int (nI (w + 1))), (7, .int (nI y)), (5, .int (nI x)), (4, .int (nI i)), (0, .ref 6), (1, .ref 5), (2, .ref 1), (3, .int (nI p))]) dX0_spread_103 rfl ((nI_succ _).symm) (by decide) rfl ?_
      refine r_goto (tgt := 61) dX0_spread_106 (by decide) ?_
      refine qG.pick [0, 2, 3, 4, 5, 6, 7] rfl ?_
      exact K
    · obtain ⟨ks', hkj, hri3, hcv3⟩ := hri2.new hi hw6 hx hy hx1 hy1 hcv hd
      have K := ih (w + 1) (sz + 1) ks' (mtA A2 y sz (A2 28 x + 1) (nI x) (nI w)) (by omega) (by omega) (hc2.fx mtA_fr) hri3 ((hnx2.fr mtA_31).ks (fun j hj => hkj j (by omega))) hcv3 (fun A' sz' ks' f => h A' sz' ks' ((hfr.tr (mtA_fr.mo (by decide))).tr f))
      rw [hkj i hi, hx] at K
      refine r_iinc (v := (nI (w + 1))) (loc' := [(6, .int (nI (w + 1))), (7, .int (nI y)), (5, .int (nI x)), (4, .int (nI i)), (0, .ref 6), (1, .ref 5), (2, .ref 1), (3, .int (nI p))]) dX0_spread_103 rfl ((nI_succ _).symm) (by decide) rfl ?_
      refine r_goto (tgt := 61) dX0_spread_106 (by decide) ?_
      refine qG.pick [0, 2, 3, 4, 5, 6, 7] rfl ?_
      exact K
set_option maxRecDepth 100000 in
set_option maxHeartbeats 1000000 in
theorem so_end (hE : hC E) {sz : Nat} (h6 : A 6 7 = nI sz) (hs : sz ≤ 100) (h : Ph none A L) : qG E mm_X0_spread (d + 4) 33 [(4, .int (nI sz)), (0, .ref 6), (1, .ref 5), (2, .ref 1), (3, .int (nI p))] [] A L Ph := by
  refine r_iload dX0_spread_33 rfl ?_
  refine r_aload_n dX0_spread_35 rfl ?_
  refine r_getI dX0_spread_36 fl_X0_46 (ly_6 hE) rfl ?_
  refine r_rw (y := nI sz) h6 ?_
  refine r_icmp_ge (tgt := 115) dX0_spread_39 (by decide) (fun _ => ?_) (fun hqz => absurd (nI_le (Nat.le_refl sz) (by omega)) hqz)
  refine r_return dX0_spread_115 rfl ?_
  exact h
set_option maxRecDepth 100000 in
set_option maxHeartbeats 1000000 in
theorem so_loop (hW : WfS S T n z) (hp : p < n) : ∀ (k i sz : Nat) (ks : Nat → Nat) (A : mA), i + k = 100 → i ≤ sz → CE E A S T (rF S) (kdP S p) (nrP S p) → RI A S p sz ks → NX A S p i 0 ks → ((i < sz → CV (gP S p) (aP S p) sz ks (6 * ks i + 1)) ∧ (i = sz → ∀ K, ∃ j, j < sz ∧ eP S p K = eP S p (ks j) ∧ ks j ≤ K)) → (∀ A' sz' ks', Fr xR A A' → CE E A' S T (rF S) (kdP S p) (nrP S p) → RS A' S p sz' ks' → Ph none A' L) → qG E mm_X0_spread (d + 4) 33 [(4, .int (nI i)), (0, .ref 6), (1, .ref 5), (2, .ref 1), (3, .int (nI p))] [] A L Ph := by
  intro k
  induction k with
  | zero =>
    intro i sz ks A hk hi hc hri hnx hcv h
    have hs := hri.2.1.2.1
    have ei : i = sz := by omega
    subst ei
    exact so_end hc.1 hri.1 hs (h A i ks Fr.rf hc ⟨hri, hcv.2 rfl, hnx.1⟩)
  | succ k ih =>
    intro i sz ks A hk hi hc hri hnx hcv h
    have hE := hc.1
    have hs := hri.2.1.2.1
    rcases Nat.eq_or_lt_of_le hi with ei | hi
    · subst ei
      exact so_end hc.1 hri.1 hs (h A i ks Fr.rf hc ⟨hri, hcv.2 rfl, hnx.1⟩)
    · refine r_iload dX0_spread_33 rfl ?_
      refine r_aload_n dX0_spread_35 rfl ?_
      refine r_getI dX0_spread_36 fl_X0_46 (ly_6 hE) rfl ?_
      refine r_rw (y := nI sz) hri.1 ?_
      refine r_icmp_ge (tgt := 115) dX0_spread_39 (by decide) (fun hqz => absurd hqz (nI_ge hi (by omega))) (fun _ => ?_)
      refine r_iload dX0_spread_42 rfl ?_
      refine r_bipush (v := 100) dX0_spread_44 rfl ?_
      refine r_icmp_ge (tgt := 115) dX0_spread_46 (by decide) (fun hqz => absurd hqz (nI_ge (show i < 100 by omega) (by decide))) (fun _ => ?_)
      refine r_aload_n dX0_spread_49 rfl ?_
      refine r_getR dX0_spread_50 fl_X0_9 (ly_6 hE) rfl ?_
      refine r_iload dX0_spread_53 rfl ?_
      refine r_ialdN dX0_spread_55 (ly_27 hE) (by omega) (by decide) ?_
      refine r_rw (y := nI (eP S p (ks i))) (hri.2.2.1 i hi) ?_
      refine r_istore (loc' := [(5, .int (nI (eP S p (ks i)))), (4, .int (nI i)), (0, .ref 6), (1, .ref 5), (2, .ref 1), (3, .int (nI p))]) dX0_spread_56 (by decide) rfl ?_
      refine r_iconst (v := 0) dX0_spread_58 rfl ?_
      refine r_istore (loc' := [(6, .int 0), (5, .int (nI (eP S p (ks i)))), (4, .int (nI i)), (0, .ref 6), (1, .ref 5), (2, .ref 1), (3, .int (nI p))]) dX0_spread_59 (by decide) rfl ?_
      refine qG.pick [0, 1, 2, 3, 4, 5, 6] rfl ?_
      refine si_loop hW hp 6 0 sz ks A (by omega) hi hc hri hnx (hcv.1 hi) (fun A1 sz1 ks1 f1 hi1 hc1 hr1 hn1 hv1 => ?_)
      refine r_iinc (v := (nI (i + 1))) (loc' := [(4, .int (nI (i + 1))), (0, .ref 6), (1, .ref 5), (2, .ref 1), (3, .int (nI p))]) dX0_spread_109 rfl ((nI_succ _).symm) (by decide) rfl ?_
      refine r_goto (tgt := 33) dX0_spread_112 (by decide) ?_
      refine qG.pick [0, 1, 2, 3, 4] rfl ?_
      exact ih (i + 1) sz1 ks1 A1 (by omega) (by omega) hc1 hr1 hn1 (hr1.step hv1) (fun A' sz' ks' f => h A' sz' ks' (f1.tr f))
set_option maxRecDepth 100000 in
set_option maxHeartbeats 1000000 in
theorem sp_spread (hE : hC E) (hW : WfS S T n z) (hR : RC A S T n z) (hp : p < n) (h : ∀ A' sz ks, Fr xR A A' → CE E A' S T (rF S) (kdP S p) (nrP S p) → RS A' S p sz ks → Ph none A' L) : qC E mm_X0_spread (d + 4) [.ref 6, .ref 5, .ref 1, .int (nI p)] A L Ph := by
  have ha := aP_ok hW hp
  refine qC.enter (by decide) (Nat.le_of_ble_eq_true rfl) ?_
  refine r_aload_n dX0_spread_0 rfl ?_
  refine r_aload_n dX0_spread_1 rfl ?_
  refine r_iload_n dX0_spread_2 rfl ?_
  refine r_callV2 dX0_spread_3 lk_X0_34 (ly_5 hE) rfl (Nat.le_of_ble_eq_true rfl) (co_of hE hW hR hp (fun A1 f1 hc hR1 => ?_))
  refine r_aload_n dX0_spread_6 rfl ?_
  refine r_getR dX0_spread_7 fl_X0_15 (ly_6 hE) rfl ?_
  refine r_iconst (v := (-1)) dX0_spread_10 rfl ?_
  refine r_callS2 dX0_spread_11 lk_X0_40 (Nat.le_of_ble_eq_true rfl) (sp_fillk (ly_28 hE) ?_)
  refine r_aload_n dX0_spread_14 rfl ?_
  refine r_iconst (v := 0) dX0_spread_15 rfl ?_
  refine r_putI dX0_spread_16 fl_X0_46 fp_0_7 (ly_6 hE) rfl rfl rfl ?_
  obtain ⟨A2, eA2⟩ : ∃ A2, s2 (va_up A1 28 (fa_fill (fun _ => -1) (A1 28) 100)) 6 7 0 = A2 := ⟨_, rfl⟩
  rw [eA2]
  have f2 : Fr [6, 27, 28, 29, 30, 31] A1 A2 := by rw [← eA2]; exact (Fr.up (by decide)).tr (Fr.s2 (by decide))
  have h28 : ∀ a, a < 100 → A2 28 a = -1 := by
    intro a ha
    rw [← eA2, s2_ne (by decide), va_up_eq]
    exact fa_fill_in ha
  have h6 : A2 6 7 = nI 0 := by rw [← eA2, s2_same]; rfl
  refine r_aload_n dX0_spread_19 rfl ?_
  refine r_aload_n dX0_spread_20 rfl ?_
  refine r_iload_n dX0_spread_21 rfl ?_
  refine r_callV1 dX0_spread_22 lk_X0_50 (ly_1 hE) rfl (Nat.le_of_ble_eq_true rfl) (co_an hE hW (hR1.fr (f2.mo (by decide))) hp ?_)
  refine r_rw (y := nI (aP S p)) ha.2 ?_
  refine r_iconst (v := (-1)) dX0_spread_25 rfl ?_
  refine r_iconst (v := (-1)) dX0_spread_26 rfl ?_
  refine r_callV3 dX0_spread_27 lk_X0_56 (ly_6 hE) rfl (Nat.le_of_ble_eq_true rfl) (meet_0 hE ha.1 h6 (by decide) (h28 _ ha.1) ?_)
  refine r_iconst (v := 0) dX0_spread_30 rfl ?_
  refine r_istore (loc' := [(4, .int 0), (0, .ref 6), (1, .ref 5), (2, .ref 1), (3, .int (nI p))]) dX0_spread_31 (by decide) rfl ?_
  refine qG.pick [0, 1, 2, 3, 4] rfl ?_
  have h1 := RI.one (S := S) h28 ha.1
  exact so_loop hW hp 100 0 1 (fun _ => 0) _ (by omega) (by decide) ((hc.fx f2).fx mtA_fr) h1.1 ⟨fun j v hj _ => absurd hj (Nat.not_lt_zero _), fun v hv => absurd hv (Nat.not_lt_zero _)⟩ ⟨fun _ => h1.2, fun z => absurd z (by decide)⟩ (fun A' sz' ks' f => h A' sz' ks' (((f1.mo (by decide)).tr (f2.mo (by decide))).tr ((mtA_fr.mo (by decide)).tr f)))
end RCH
