/-! the reference: where each word leads, how many words are wanted, what is reached -/
def FL (A S : mA) (p a w : Nat) : Prop := (∀ b, b < a → A 48 b = farP S p (nI b)) ∧ (∀ b v, b < a → v < 6 → A 47 (6 * b + v) = nI (gP S p b v)) ∧ ∀ v, v < w → A 47 (6 * a + v) = nI (gP S p a v)
def FLL (A S : mA) (p : Nat) : Prop := (∀ b, b < 100 → A 48 b = farP S p (nI b)) ∧ ∀ b v, b < 100 → v < 6 → A 47 (6 * b + v) = nI (gP S p b v)
theorem FL.fr {A A' S : mA} {p a w : Nat} (h : FL A S p a w) (h7 : A' 47 = A 47) (h8 : A' 48 = A 48) : FL A' S p a w := by
  unfold FL at *
  rw [h7, h8]
  exact h
theorem FLL.fr {A A' S : mA} {p : Nat} (h : FLL A S p) (h7 : A' 47 = A 47) (h8 : A' 48 = A 48) : FLL A' S p := by
  unfold FLL at *
  rw [h7, h8]
  exact h
theorem FL.put {A S : mA} {p a w : Nat} (h : FL A S p a w) (hw : w < 6) : FL (s2 A 47 (6 * a + w) (nI (gP S p a w))) S p a (w + 1) := by
  refine ⟨fun b hb => by rw [s2_ne (by decide)]; exact h.1 b hb, fun b v hb hv => ?_, fun v hv => ?_⟩
  · rw [s2_nj (fun _ => by omega)]; exact h.2.1 b v hb hv
  · by_cases e : v = w
    · rw [e, s2_same]
    · rw [s2_nj (fun _ => by omega)]; exact h.2.2 v (by omega)
theorem FL.far {A S : mA} {p a : Nat} (h : FL A S p a 0) : FL (s2 A 48 a (farP S p (nI a))) S p a 0 := by
  refine ⟨fun b hb => by rw [s2_nj (fun _ => by omega)]; exact h.1 b hb, fun b v hb hv => by rw [s2_ne (by decide)]; exact h.2.1 b v hb hv, fun v hv => absurd hv (Nat.not_lt_zero _)⟩
theorem FL.next {A S : mA} {p a : Nat} (h : FL A S p a 6) (h8 : A 48 a = farP S p (nI a)) : FL A S p (a + 1) 0 := by
  refine ⟨fun b hb => ?_, fun b v hb hv => ?_, fun v hv => absurd hv (Nat.not_lt_zero _)⟩
  · rcases Nat.lt_or_ge b a with q | q
    · exact h.1 b q
    · rw [show b = a by omega]; exact h8
  · rcases Nat.lt_or_ge b a with q | q
    · exact h.2.1 b v q hv
    · rw [show b = a by omega]; exact h.2.2 v hv
section RFL
variable {E : mE} {d : Nat} {A S : mA} {L : mJ} {Ph : mP} {T n z p : Nat}
set_option maxRecDepth 100000 in
set_option maxHeartbeats 1000000 in
theorem fi_loop {a : Nat} (ha : a < 100) : ∀ (k w : Nat) (A : mA), w + k = 6 → ME E A S T (rF S) (kdP S p) (nrP S p) → FL A S p a w → A 48 a = farP S p (nI a) → (∀ A', Fr [46, 47, 48] A A' → ME E A' S T (rF S) (kdP S p) (nrP S p) → FL A' S p (a + 1) 0 → qG E mm_X7_fill (d + 5) 55 [(2, .int (nI a)), (0, .ref 38), (1, .int (nI p))] [] A' L Ph) → qG E mm_X7_fill (d + 5) 26 [(3, .int (nI w)), (2, .int (nI a)), (0, .ref 38), (1, .int (nI p))] [] A L Ph := by
  intro k
  induction k with
  | zero =>
    intro w A hw hm hfl h8 h
    have hw : w = 6 := by omega
    subst hw
    refine r_iload_n dX7_fill_26 rfl ?_
    refine r_bipush (v := 6) dX7_fill_27 rfl ?_
    refine r_icmp_ge (tgt := 55) dX7_fill_29 (by decide) (fun _ => ?_) (fun hqz => absurd (nI_le (Nat.le_refl 6) (by decide)) hqz)
    refine qG.pick [1, 2, 3] rfl ?_
    exact h A Fr.rf hm (hfl.next h8)
  | succ k ih =>
    intro w A hw hm hfl h8 h
    have hE := hm.1
    refine r_iload_n dX7_fill_26 rfl ?_
    refine r_bipush (v := 6) dX7_fill_27 rfl ?_
    refine r_icmp_ge (tgt := 55) dX7_fill_29 (by decide) (fun hqz => absurd hqz (nI_ge (show w < 6 by omega) (by decide))) (fun _ => ?_)
    refine r_aload_n dX7_fill_32 rfl ?_
    refine r_getR dX7_fill_33 fl_X7_43 (ly_38 hE) rfl ?_
    refine r_bipush (v := 6) dX7_fill_36 rfl ?_
    refine r_iload_n dX7_fill_38 rfl ?_
    refine r_imul dX7_fill_39 ?_
    refine r_iload_n dX7_fill_40 rfl ?_
    refine r_iadd dX7_fill_41 ?_
    refine r_rw (y := nI (6 * a + w)) (show nI 6 * nI a + nI w = _ by rw [pk_mul, nI_add]) ?_
    refine r_aload_n dX7_fill_42 rfl ?_
    refine r_iload_n dX7_fill_43 rfl ?_
    refine r_iload_n dX7_fill_44 rfl ?_
    refine r_callV2 dX7_fill_45 lk_X7_212 (ly_38 hE) rfl (Nat.le_of_ble_eq_true rfl) (sp_X7_behindWord hm (fun A1 f1 => ?_))
    refine r_rw (y := nI (gP S p a w)) (gP_ok S p a w).2 ?_
    refine r_iastN dX7_fill_48 (ly_47 hE) (by omega) (by decide) ?_
    refine r_iinc (v := (nI (w + 1))) (loc' := [(3, .int (nI (w + 1))), (2, .int (nI a)), (0, .ref 38), (1, .int (nI p))]) dX7_fill_49 rfl ((nI_succ _).symm) (by decide) rfl ?_
    refine r_goto (tgt := 26) dX7_fill_52 (by decide) ?_
    refine qG.pick [0, 1, 2, 3] rfl ?_
    exact ih (w + 1) _ (by omega) ((hm.f46 f1).fr (Fr.s2 (X := [47]) (by decide)) (by decide)) ((hfl.fr (f1 47 (by decide)) (f1 48 (by decide))).put (by omega)) (by rw [s2_ne (by decide), f1 48 (by decide)]; exact h8) (fun A' f => h A' (((f1.mo (by decide)).tr (Fr.s2 (by decide))).tr f))
set_option maxRecDepth 100000 in
set_option maxHeartbeats 1000000 in
theorem fo_loop : ∀ (k a : Nat) (A : mA), a + k = 100 → ME E A S T (rF S) (kdP S p) (nrP S p) → FL A S p a 0 → (∀ A', Fr [46, 47, 48] A A' → ME E A' S T (rF S) (kdP S p) (nrP S p) → FLL A' S p → Ph none A' L) → qG E mm_X7_fill (d + 5) 7 [(2, .int (nI a)), (0, .ref 38), (1, .int (nI p))] [] A L Ph := by
  intro k
  induction k with
  | zero =>
    intro a A ha hm hfl h
    have ha : a = 100 := by omega
    subst ha
    refine r_iload_n dX7_fill_7 rfl ?_
    refine r_bipush (v := 100) dX7_fill_8 rfl ?_
    refine r_icmp_ge (tgt := 61) dX7_fill_10 (by decide) (fun _ => ?_) (fun hqz => absurd (nI_le (Nat.le_refl 100) (by decide)) hqz)
    refine r_return dX7_fill_61 rfl ?_
    exact h A Fr.rf hm ⟨hfl.1, hfl.2.1⟩
  | succ k ih =>
    intro a A ha hm hfl h
    have hE := hm.1
    refine r_iload_n dX7_fill_7 rfl ?_
    refine r_bipush (v := 100) dX7_fill_8 rfl ?_
    refine r_icmp_ge (tgt := 61) dX7_fill_10 (by decide) (fun hqz => absurd hqz (nI_ge (show a < 100 by omega) (by decide))) (fun _ => ?_)
    refine r_aload_n dX7_fill_13 rfl ?_
    refine r_getR dX7_fill_14 fl_X7_46 (ly_38 hE) rfl ?_
    refine r_iload_n dX7_fill_17 rfl ?_
    refine r_aload_n dX7_fill_18 rfl ?_
    refine r_iload_n dX7_fill_19 rfl ?_
    refine r_callV1 dX7_fill_20 lk_X7_113 (ly_38 hE) rfl (Nat.le_of_ble_eq_true rfl) (sp_X7_far hm (fun A1 f1 => ?_))
    refine r_rw (y := farP S p (nI a)) rfl ?_
    refine r_iastN dX7_fill_23 (ly_48 hE) (by omega) (by decide) ?_
    refine r_iconst (v := 0) dX7_fill_24 rfl ?_
    refine r_istore_n (loc' := [(3, .int 0), (2, .int (nI a)), (0, .ref 38), (1, .int (nI p))]) dX7_fill_25 (by decide) rfl ?_
    refine qG.pick [0, 1, 2, 3] rfl ?_
    refine fi_loop (show a < 100 by omega) 6 0 _ (by omega) ((hm.f46 f1).fr (Fr.s2 (X := [48]) (by decide)) (by decide)) (hfl.fr (f1 47 (by decide)) (f1 48 (by decide))).far s2_same (fun A2 f2 hm2 hfl2 => ?_)
    refine r_iinc (v := (nI (a + 1))) (loc' := [(2, .int (nI (a + 1))), (0, .ref 38), (1, .int (nI p))]) dX7_fill_55 rfl ((nI_succ _).symm) (by decide) rfl ?_
    refine r_goto (tgt := 7) dX7_fill_58 (by decide) ?_
    refine qG.pick [0, 1, 2] rfl ?_
    exact ih (a + 1) A2 (by omega) hm2 hfl2 (fun A' f => h A' ((((f1.mo (by decide)).tr (Fr.s2 (by decide))).tr f2).tr f))
set_option maxRecDepth 100000 in
set_option maxHeartbeats 1000000 in
theorem sp_fillM (hE : hM E) (hW : WfS S T n z) (hR : RM A S T) (hp : p < n) (h : ∀ A', FM A A' → ME E A' S T (rF S) (kdP S p) (nrP S p) → FLL A' S p → Ph none A' L) : qC E mm_X7_fill (d + 5) [.ref 38, .int (nI p)] A L Ph := by
  refine qC.enter (by decide) (Nat.le_of_ble_eq_true rfl) ?_
  refine r_aload_n dX7_fill_0 rfl ?_
  refine r_iload_n dX7_fill_1 rfl ?_
  refine r_callV1 dX7_fill_2 lk_X7_97 (ly_38 hE) rfl (Nat.le_of_ble_eq_true rfl) (mo_take hE hW hR hp (fun A1 f1 fm hm => ?_))
  refine r_iconst (v := 0) dX7_fill_5 rfl ?_
  refine r_istore_n (loc' := [(2, .int 0), (0, .ref 38), (1, .int (nI p))]) dX7_fill_6 (by decide) rfl ?_
  refine qG.pick [0, 1, 2] rfl ?_
  exact fo_loop 100 0 A1 (by omega) hm ⟨fun b hb => absurd hb (Nat.not_lt_zero _), fun b v hb _ => absurd hb (Nat.not_lt_zero _), fun v hv => absurd hv (Nat.not_lt_zero _)⟩ (fun A' f => h A' (fm.tr (FM.of f (by decide))))
end RFL
/-! how many words are wanted -/
def IW (A : mA) (G : Nat → Prop) (a : Nat) : Prop := ∀ b, b < a → (A 49 b = 0 ∧ G b) ∨ (A 49 b = -1 ∧ ¬ G b)
theorem IW.put {A : mA} {G : Nat → Prop} {a : Nat} {x : Int32} (h : IW A G a) (hx : (x = 0 ∧ G a) ∨ (x = -1 ∧ ¬ G a)) : IW (s2 A 49 a x) G (a + 1) := by
  intro b hb
  by_cases e : b = a
  · rw [e, s2_same]; exact hx
  · rw [s2_nj (fun _ => e)]; exact h b (by omega)
theorem IW.ps {A : mA} {G : Nat → Prop} {g : Nat → Nat → Nat} (h : IW A G 100) : ∀ a, a < 100 → PS g G (A 49) 0 a := by
  intro a ha
  rcases h a ha with ⟨e, q⟩ | ⟨e, q⟩
  · exact Or.inr ⟨0, Nat.le_refl _, e, q, fun m hm => absurd hm (Nat.not_lt_zero _)⟩
  · exact Or.inl ⟨e, fun m hm => by rw [show m = 0 by omega]; exact q⟩
theorem nI_z {a : Nat} (ha : a < 2 ^ 31) (h : nI a = 0) : a = 0 := (nI_eq ha (by decide)).mp h
abbrev ct (v : Nat → Int32) : Nat := sm (fun b => nn (v b)) 100
theorem ct_le (v : Nat → Int32) : ct v ≤ 100 := sm_le (fun a => by show nn (v a) ≤ 1; unfold nn; split <;> decide) 100
theorem ct_up {v : Nat → Int32} {a m : Nat} (ha : a < 100) (hv : v a = -1) (hm : m < 2 ^ 31) : ct (upd v a (nI m)) = ct v + 1 := by
  have := sm_one (f := fun b => nn (v b)) (h := fun b => nn (upd v a (nI m) b)) (a := a) (fun x hx => by show nn (upd v a (nI m) x) = nn (v x); rw [u_no hx]) 100 ha
  have n1 : nn (upd v a (nI m) a) = 1 := by rw [upd_eq]; exact if_neg (nI_nm1 hm)
  have n0 : nn (v a) = 0 := by rw [hv]; rfl
  simp only [n1, n0] at this
  show sm (fun b => nn (upd v a (nI m) b)) 100 = sm (fun b => nn (v b)) 100 + 1
  omega
/-- within a pass -/
def PX (g : Nat → Nat → Nat) (G : Nat → Prop) (v : Nat → Int32) (m a : Nat) (mo : Int32) : Prop := m ≤ ct v ∧ (∀ b, b < a → PS g G v (m + 1) b) ∧ (∀ b, a ≤ b → b < 100 → PS g G v m b) ∧ ((mo = 0 ∧ ∀ b, b < 100 → PS g G v m b) ∨ (mo = 1 ∧ m + 1 ≤ ct v))
theorem PS.up {g : Nat → Nat → Nat} {G : Nat → Prop} {v : Nat → Int32} {m a : Nat} (h : PS g G v m a) (hv : ¬ v a = -1) : PS g G v (m + 1) a := by
  rcases h with ⟨e, _⟩ | ⟨k, hk, e, q⟩
  · exact absurd e hv
  · exact Or.inr ⟨k, by omega, e, q⟩
theorem PS.cg {g : Nat → Nat → Nat} {G : Nat → Prop} {v v' : Nat → Int32} {m a : Nat} (h : PS g G v m a) (hv : v' a = v a) : PS g G v' m a := by
  unfold PS at *
  rw [hv]
  exact h
/-- a's turn is over, it had a number -/
theorem PX.had {g : Nat → Nat → Nat} {G : Nat → Prop} {v : Nat → Int32} {m a : Nat} {mo : Int32} (h : PX g G v m a mo) (ha : a < 100) (hv : ¬ v a = -1) : PX g G v m (a + 1) mo := by
  obtain ⟨h1, h2, h3, h4⟩ := h
  refine ⟨h1, fun b hb => ?_, fun b hb hb' => h3 b (by omega) hb', h4⟩
  rcases Nat.lt_or_ge b a with q | q
  · exact h2 b q
  · rw [show b = a by omega]; exact (h3 a (Nat.le_refl _) ha).up hv
/-- it gets none -/
theorem PX.no {g : Nat → Nat → Nat} {G : Nat → Prop} {v : Nat → Int32} {m a : Nat} {mo : Int32} (h : PX g G v m a mo) (ha : a < 100) (hv : v a = -1) (hn : ∀ w, w < 6 → ¬ LV g G m (g a w)) : PX g G v m (a + 1) mo := by
  obtain ⟨h1, h2, h3, h4⟩ := h
  have hm := ct_le v
  refine ⟨h1, fun b hb => ?_, fun b hb hb' => h3 b (by omega) hb', h4⟩
  rcases Nat.lt_or_ge b a with q | q
  · exact h2 b q
  · rw [show b = a by omega]
    have hno := PS_no (by omega) (h3 a (Nat.le_refl _) ha) hv
    refine Or.inl ⟨hv, fun k hk => ?_⟩
    rcases Nat.lt_or_ge m k with z | z
    · rw [show k = m + 1 by omega]
      intro hW
      obtain ⟨w, hw, hl⟩ := (PS_new hno).mpr ⟨hW, fun j hj => hno j (by omega)⟩
      exact hn w hw hl
    · exact hno k z
/-- it gets one -/
theorem PX.got {g : Nat → Nat → Nat} {G : Nat → Prop} {v : Nat → Int32} {m a w : Nat} {mo : Int32} (h : PX g G v m a mo) (ha : a < 100) (hv : v a = -1) (hw : w < 6) (hl : LV g G m (g a w)) : PX g G (upd v a (nI (m + 1))) m (a + 1) 1 := by
  obtain ⟨h1, h2, h3, h4⟩ := h
  have hm := ct_le v
  have hc := ct_up (v := v) (m := m + 1) ha hv (by omega)
  refine ⟨by omega, fun b hb => ?_, fun b hb hb' => (h3 b (by omega) hb').cg (u_no (by omega)), Or.inr ⟨rfl, by omega⟩⟩
  rcases Nat.lt_or_ge b a with q | q
  · exact (h2 b q).cg (u_no (by omega))
  · rw [show b = a by omega]
    refine Or.inr ⟨m + 1, Nat.le_refl _, upd_eq, ?_⟩
    exact (PS_new (PS_no (by omega) (h3 a (Nat.le_refl _) ha) hv)).mp ⟨w, hw, hl⟩
/-- the question that is put -/
theorem PX.lv {g : Nat → Nat → Nat} {G : Nat → Prop} {v : Nat → Int32} {m a b : Nat} {mo : Int32} (h : PX g G v m a mo) (hb : b < 100) : v b = nI m ↔ LV g G m b := by
  have hm := ct_le v
  have h1 := h.1
  rcases Nat.lt_or_ge b a with q | q
  · exact PS_lv (by omega) (by omega) (h.2.1 b q)
  · exact PS_lv (by omega) (Nat.le_refl _) (h.2.2.1 b q hb)
/-- all is told -/
def WD (v : Nat → Int32) (g : Nat → Nat → Nat) (G : Nat → Prop) : Prop := ∀ a, a < 100 → (v a = -1 ∧ ∀ m, ¬ WN g G m a) ∨ ∃ m, m ≤ 100 ∧ v a = nI m ∧ LV g G m a
theorem PX.done {g : Nat → Nat → Nat} {G : Nat → Prop} {v : Nat → Int32} {m : Nat} (hg : ∀ a w, a < 100 → w < 6 → g a w < 100) (h : PX g G v m 100 0) : WD v g G := by
  obtain ⟨h1, h2, h3, h4⟩ := h
  have hm := ct_le v
  rcases h4 with ⟨_, h4⟩ | ⟨q, _⟩
  · have he := PS_end (by omega) hg h4 (fun a ha e => PS_no (by omega) (h2 a ha) e (m + 1) (Nat.le_refl _))
    intro a ha
    rcases h4 a ha with ⟨e, q⟩ | ⟨k, hk, e, q⟩
    · refine Or.inl ⟨e, fun j hW => ?_⟩
      obtain ⟨k, hk, hW⟩ := he j a ha hW
      exact q k hk hW
    · exact Or.inr ⟨k, by omega, e, q⟩
  · exact absurd q (by decide)
section RFW
variable {E : mE} {d : Nat} {A S : mA} {L : mJ} {Ph : mP} {T n z p : Nat} {G : Nat → Prop} {kv : Int32}
set_option maxRecDepth 100000 in
set_option maxHeartbeats 1000000 in
theorem fq_exit (hE : hM E) {a m w : Nat} {mo : Int32} (ha : a < 100) (hw : w ≤ 6) (hv : ¬ A 49 a = -1) (h : qG E mm_X7_fillWants d 128 [(4, .int (nI a)), (2, .int mo), (3, .int (nI (m + 1))), (0, .ref 38), (1, .int kv)] [] A L Ph) : qG E mm_X7_fillWants d 70 [(5, .int (nI w)), (4, .int (nI a)), (2, .int mo), (3, .int (nI (m + 1))), (0, .ref 38), (1, .int kv)] [] A L Ph := by
  rcases Nat.eq_or_lt_of_le hw with e | hw
  · subst e
    refine r_iload dX7_fillWants_70 rfl ?_
    refine r_bipush (v := 6) dX7_fillWants_72 rfl ?_
    refine r_icmp_ge (tgt := 128) dX7_fillWants_74 (by decide) (fun _ => ?_) (fun hqz => absurd (nI_le (Nat.le_refl 6) (by decide)) hqz)
    refine qG.pick [1, 2, 3, 4, 5] rfl ?_
    exact h
  · refine r_iload dX7_fillWants_70 rfl ?_
    refine r_bipush (v := 6) dX7_fillWants_72 rfl ?_
    refine r_icmp_ge (tgt := 128) dX7_fillWants_74 (by decide) (fun hqz => absurd hqz (nI_ge hw (by decide))) (fun _ => ?_)
    refine r_aload_n dX7_fillWants_77 rfl ?_
    refine r_getR dX7_fillWants_78 fl_X7_49 (ly_38 hE) rfl ?_
    refine r_iload dX7_fillWants_81 rfl ?_
    refine r_ialdN dX7_fillWants_83 (ly_49 hE) (by omega) (by decide) ?_
    refine r_iconst (v := (-1)) dX7_fillWants_84 rfl ?_
    refine r_icmp_ne (tgt := 128) dX7_fillWants_85 (by decide) (fun _ => ?_) (fun hqz => absurd hqz hv)
    refine qG.pick [1, 2, 3, 4, 5] rfl ?_
    exact h
set_option maxRecDepth 100000 in
set_option maxHeartbeats 1000000 in
theorem fq_loop (hE : hM E) {a m : Nat} {mo : Int32} (ha : a < 100) (hfl : FLL A S p) (hpx : PX (gP S p) G (A 49) m a mo) (hv : A 49 a = -1) (h0 : PX (gP S p) G (A 49) m (a + 1) mo → qG E mm_X7_fillWants d 128 [(4, .int (nI a)), (2, .int mo), (3, .int (nI (m + 1))), (0, .ref 38), (1, .int kv)] [] A L Ph) (h1 : ∀ A', Fr [49] A A' → PX (gP S p) G (A' 49) m (a + 1) 1 → qG E mm_X7_fillWants d 128 [(4, .int (nI a)), (2, .int 1), (3, .int (nI (m + 1))), (0, .ref 38), (1, .int kv)] [] A' L Ph) : ∀ (k w : Nat), w + k = 6 → (∀ v, v < w → ¬ LV (gP S p) G m (gP S p a v)) → qG E mm_X7_fillWants d 70 [(5, .int (nI w)), (4, .int (nI a)), (2, .int mo), (3, .int (nI (m + 1))), (0, .ref 38), (1, .int kv)] [] A L Ph := by
  have hm := ct_le (A 49)
  have hm1 := hpx.1
  intro k
  induction k with
  | zero =>
    intro w hw hn
    have hw : w = 6 := by omega
    subst hw
    refine r_iload dX7_fillWants_70 rfl ?_
    refine r_bipush (v := 6) dX7_fillWants_72 rfl ?_
    refine r_icmp_ge (tgt := 128) dX7_fillWants_74 (by decide) (fun _ => ?_) (fun hqz => absurd (nI_le (Nat.le_refl 6) (by decide)) hqz)
    refine qG.pick [1, 2, 3, 4, 5] rfl ?_
    exact h0 (hpx.no ha hv hn)
  | succ k ih =>
    intro w hw hn
    have hw6 : w < 6 := by omega
    have hg := (gP_ok S p a w).1
    refine r_iload dX7_fillWants_70 rfl ?_
    refine r_bipush (v := 6) dX7_fillWants_72 rfl ?_
    refine r_icmp_ge (tgt := 128) dX7_fillWants_74 (by decide) (fun hqz => absurd hqz (nI_ge hw6 (by decide))) (fun _ => ?_)
    refine r_aload_n dX7_fillWants_77 rfl ?_
    refine r_getR dX7_fillWants_78 fl_X7_49 (ly_38 hE) rfl ?_
    refine r_iload dX7_fillWants_81 rfl ?_
    refine r_ialdN dX7_fillWants_83 (ly_49 hE) (by omega) (by decide) ?_
    refine r_iconst (v := (-1)) dX7_fillWants_84 rfl ?_
    refine r_icmp_ne (tgt := 128) dX7_fillWants_85 (by decide) (fun hqz => absurd hv hqz) (fun _ => ?_)
    refine r_aload_n dX7_fillWants_88 rfl ?_
    refine r_getR dX7_fillWants_89 fl_X7_49 (ly_38 hE) rfl ?_
    refine r_aload_n dX7_fillWants_92 rfl ?_
    refine r_getR dX7_fillWants_93 fl_X7_43 (ly_38 hE) rfl ?_
    refine r_bipush (v := 6) dX7_fillWants_96 rfl ?_
    refine r_iload dX7_fillWants_98 rfl ?_
    refine r_imul dX7_fillWants_100 ?_
    refine r_iload dX7_fillWants_101 rfl ?_
    refine r_iadd dX7_fillWants_103 ?_
    refine r_rw (y := nI (6 * a + w)) (show nI 6 * nI a + nI w = _ by rw [pk_mul, nI_add]) ?_
    refine r_ialdN dX7_fillWants_104 (ly_47 hE) (by omega) (by decide) ?_
    refine r_rw (y := nI (gP S p a w)) (hfl.2 a w ha hw6) ?_
    refine r_ialdN dX7_fillWants_105 (ly_49 hE) (by omega) (by decide) ?_
    refine r_iload_n dX7_fillWants_106 rfl ?_
    refine r_iconst (v := 1) dX7_fillWants_107 rfl ?_
    refine r_isub dX7_fillWants_108 ?_
    refine r_rw (y := nI m) (show nI (m + 1) - nI 1 = _ by rw [pk_sub (by omega)]; rfl) ?_
    refine r_icmp_ne (tgt := 122) dX7_fillWants_109 (by decide) (fun b109 => ?_) (fun b109 => ?_)
    · have hn2 : ∀ v, v < w + 1 → ¬ LV (gP S p) G m (gP S p a v) := by
        intro v hv2
        rcases Nat.lt_or_ge v w with q | q
        · exact hn v q
        · rw [show v = w by omega]
          exact fun z => b109 ((hpx.lv hg).mpr z)
      refine r_iinc (v := (nI (w + 1))) (loc' := [(5, .int (nI (w + 1))), (4, .int (nI a)), (2, .int mo), (3, .int (nI (m + 1))), (0, .ref 38), (1, .int kv)]) dX7_fillWants_122 rfl ((nI_succ _).symm) (by decide) rfl ?_
      refine r_goto (tgt := 70) dX7_fillWants_125 (by decide) ?_
      refine qG.pick [0, 1, 2, 3, 4, 5] rfl ?_
      first | exact ih (w + 1) (by omega) hn2 | exact fq_exit hE ha (by omega) (by rw [s2_same]; exact nI_nm1 (by omega)) (h1 _ (Fr.s2 (by decide)) hpx2)
    · have hpx2 := hpx.got ha hv hw6 ((hpx.lv hg).mp b109)
      rw [← s2_eq (A := A) (k := 49) (j := a) (v := nI (m + 1))] at hpx2
      refine r_aload_n dX7_fillWants_112 rfl ?_
      refine r_getR dX7_fillWants_113 fl_X7_49 (ly_38 hE) rfl ?_
      refine r_iload dX7_fillWants_116 rfl ?_
      refine r_iload_n dX7_fillWants_118 rfl ?_
      refine r_iastN dX7_fillWants_119 (ly_49 hE) (by omega) (by decide) ?_
      refine r_iconst (v := 1) dX7_fillWants_120 rfl ?_
      refine r_istore_n (loc' := [(2, .int 1), (5, .int (nI w)), (4, .int (nI a)), (3, .int (nI (m + 1))), (0, .ref 38), (1, .int kv)]) dX7_fillWants_121 (by decide) rfl ?_
      refine r_iinc (v := (nI (w + 1))) (loc' := [(5, .int (nI (w + 1))), (2, .int 1), (4, .int (nI a)), (3, .int (nI (m + 1))), (0, .ref 38), (1, .int kv)]) dX7_fillWants_122 rfl ((nI_succ _).symm) (by decide) rfl ?_
      refine r_goto (tgt := 70) dX7_fillWants_125 (by decide) ?_
      refine qG.pick [0, 2, 1, 3, 4, 5] rfl ?_
      first | exact ih (w + 1) (by omega) hn2 | exact fq_exit hE ha (by omega) (by rw [s2_same]; exact nI_nm1 (by omega)) (h1 _ (Fr.s2 (by decide)) hpx2)
set_option maxRecDepth 100000 in
set_option maxHeartbeats 1000000 in
theorem fp_loop (hE : hM E) {m : Nat} : ∀ (k a : Nat) (mo : Int32) (A : mA), a + k = 100 → PX (gP S p) G (A 49) m a mo → FLL A S p → (∀ A', Fr [49] A A' → PX (gP S p) G (A' 49) m 100 0 → qG E mm_X7_fillWants d 134 [(2, .int 0), (3, .int (nI (m + 1))), (0, .ref 38), (1, .int kv)] [] A' L Ph) → (∀ A', Fr [49] A A' → PX (gP S p) G (A' 49) m 100 1 → qG E mm_X7_fillWants d 134 [(2, .int 1), (3, .int (nI (m + 1))), (0, .ref 38), (1, .int kv)] [] A' L Ph) → qG E mm_X7_fillWants d 60 [(4, .int (nI a)), (2, .int mo), (3, .int (nI (m + 1))), (0, .ref 38), (1, .int kv)] [] A L Ph := by
  intro k
  induction k with
  | zero =>
    intro a mo A ha hpx hfl h0 h1
    have ha : a = 100 := by omega
    subst ha
    refine r_iload dX7_fillWants_60 rfl ?_
    refine r_bipush (v := 100) dX7_fillWants_62 rfl ?_
    refine r_icmp_ge (tgt := 134) dX7_fillWants_64 (by decide) (fun _ => ?_) (fun hqz => absurd (nI_le (Nat.le_refl 100) (by decide)) hqz)
    refine qG.pick [1, 2, 3, 4] rfl ?_
    rcases hpx.2.2.2 with ⟨q, _⟩ | ⟨q, _⟩
    · rw [q] at hpx ⊢
      exact h0 A Fr.rf hpx
    · rw [q] at hpx ⊢
      exact h1 A Fr.rf hpx
  | succ k ih =>
    intro a mo A ha hpx hfl h0 h1
    have ha1 : a < 100 := by omega
    have f0 : Fr [49] A A := Fr.rf
    refine r_iload dX7_fillWants_60 rfl ?_
    refine r_bipush (v := 100) dX7_fillWants_62 rfl ?_
    refine r_icmp_ge (tgt := 134) dX7_fillWants_64 (by decide) (fun hqz => absurd hqz (nI_ge ha1 (by decide))) (fun _ => ?_)
    refine r_iconst (v := 0) dX7_fillWants_67 rfl ?_
    refine r_istore (loc' := [(5, .int 0), (4, .int (nI a)), (2, .int mo), (3, .int (nI (m + 1))), (0, .ref 38), (1, .int kv)]) dX7_fillWants_68 (by decide) rfl ?_
    refine qG.pick [0, 1, 2, 3, 4, 5] rfl ?_
    by_cases hv : A 49 a = -1
    · refine fq_loop hE ha1 hfl hpx hv (fun hpx2 => ?_) (fun A1 f1 hpx2 => ?_) 6 0 (by omega) (fun v hv => absurd hv (Nat.not_lt_zero _))
      · have K := ih (a + 1) mo A (by omega) hpx2 hfl h0 h1
        refine r_iinc (v := (nI (a + 1))) (loc' := [(4, .int (nI (a + 1))), (2, .int mo), (3, .int (nI (m + 1))), (0, .ref 38), (1, .int kv)]) dX7_fillWants_128 rfl ((nI_succ _).symm) (by decide) rfl ?_
        refine r_goto (tgt := 60) dX7_fillWants_131 (by decide) ?_
        refine qG.pick [0, 1, 2, 3, 4] rfl ?_
        exact K
      · have K := ih (a + 1) 1 A1 (by omega) hpx2 (hfl.fr (f1 47 (by decide)) (f1 48 (by decide))) (fun A' f => h0 A' (f1.tr f)) (fun A' f => h1 A' (f1.tr f))
        refine r_iinc (v := (nI (a + 1))) (loc' := [(4, .int (nI (a + 1))), (2, .int 1), (3, .int (nI (m + 1))), (0, .ref 38), (1, .int kv)]) dX7_fillWants_128 rfl ((nI_succ _).symm) (by decide) rfl ?_
        refine r_goto (tgt := 60) dX7_fillWants_131 (by decide) ?_
        refine qG.pick [0, 1, 2, 3, 4] rfl ?_
        exact K
    · refine fq_exit (w := 0) hE ha1 (by decide) hv ?_
      have K := ih (a + 1) mo A (by omega) (hpx.had ha1 hv) hfl h0 h1
      refine r_iinc (v := (nI (a + 1))) (loc' := [(4, .int (nI (a + 1))), (2, .int mo), (3, .int (nI (m + 1))), (0, .ref 38), (1, .int kv)]) dX7_fillWants_128 rfl ((nI_succ _).symm) (by decide) rfl ?_
      refine r_goto (tgt := 60) dX7_fillWants_131 (by decide) ?_
      refine qG.pick [0, 1, 2, 3, 4] rfl ?_
      exact K
set_option maxRecDepth 100000 in
set_option maxHeartbeats 1000000 in
theorem fw_main (hE : hM E) : ∀ (k m : Nat) (A : mA), m + k = 101 → m ≤ ct (A 49) → (∀ a, a < 100 → PS (gP S p) G (A 49) m a) → FLL A S p → (∀ A', Fr [49] A A' → WD (A' 49) (gP S p) G → Ph none A' L) → qG E mm_X7_fillWants d 51 [(2, .int 1), (3, .int (nI (m + 1))), (0, .ref 38), (1, .int kv)] [] A L Ph := by
  intro k
  induction k with
  | zero =>
    intro m A hk hm hps hfl h
    have := ct_le (A 49)
    omega
  | succ k ih =>
    intro m A hk hm hps hfl h
    refine r_iload_n dX7_fillWants_51 rfl ?_
    refine r_if_eq (tgt := 140) dX7_fillWants_52 (by decide) (fun hqz => absurd hqz (by decide)) (fun _ => ?_)
    refine r_iconst (v := 0) dX7_fillWants_55 rfl ?_
    refine r_istore_n (loc' := [(2, .int 0), (3, .int (nI (m + 1))), (0, .ref 38), (1, .int kv)]) dX7_fillWants_56 (by decide) rfl ?_
    refine r_iconst (v := 0) dX7_fillWants_57 rfl ?_
    refine r_istore (loc' := [(4, .int 0), (2, .int 0), (3, .int (nI (m + 1))), (0, .ref 38), (1, .int kv)]) dX7_fillWants_58 (by decide) rfl ?_
    refine qG.pick [0, 1, 2, 3, 4] rfl ?_
    refine fp_loop hE 100 0 0 A (by omega) ⟨hm, fun b hb => absurd hb (Nat.not_lt_zero _), fun b _ hb => hps b hb, Or.inl ⟨rfl, hps⟩⟩ hfl (fun A1 f1 hpx1 => ?_) (fun A1 f1 hpx1 => ?_)
    · refine r_iinc (v := (nI ((m + 1) + 1))) (loc' := [(3, .int (nI ((m + 1) + 1))), (2, .int 0), (0, .ref 38), (1, .int kv)]) dX7_fillWants_134 rfl ((nI_succ _).symm) (by decide) rfl ?_
      refine r_goto (tgt := 51) dX7_fillWants_137 (by decide) ?_
      refine r_iload_n dX7_fillWants_51 rfl ?_
      refine r_if_eq (tgt := 140) dX7_fillWants_52 (by decide) (fun _ => ?_) (fun hqz => absurd (by decide) hqz)
      refine r_return dX7_fillWants_140 rfl ?_
      exact h A1 f1 (hpx1.done (fun a w _ _ => (gP_ok S p a w).1))
    · refine r_iinc (v := (nI ((m + 1) + 1))) (loc' := [(3, .int (nI ((m + 1) + 1))), (2, .int 1), (0, .ref 38), (1, .int kv)]) dX7_fillWants_134 rfl ((nI_succ _).symm) (by decide) rfl ?_
      refine r_goto (tgt := 51) dX7_fillWants_137 (by decide) ?_
      refine qG.pick [1, 0, 2, 3] rfl ?_
      refine ih (m + 1) A1 (by omega) ?_ ?_ (hfl.fr (f1 47 (by decide)) (f1 48 (by decide))) (fun A' f => h A' (f1.tr f))
      · rcases hpx1.2.2.2 with ⟨q, _⟩ | ⟨_, q⟩
        · exact absurd q (by decide)
        · exact q
      · exact hpx1.2.1
set_option maxRecDepth 100000 in
set_option maxHeartbeats 1000000 in
theorem iw_loop (hE : hM E) (hG : ∀ a, a < 100 → (kv = -1 → (G a ↔ a = 0)) ∧ (¬ kv = -1 → (G a ↔ kv ≤ farP S p (nI a)))) : ∀ (k a : Nat) (A : mA), a + k = 100 → IW A G a → FLL A S p → (∀ A', Fr [49] A A' → IW A' G 100 → FLL A' S p → qG E mm_X7_fillWants d 51 [(2, .int 1), (3, .int (nI (0 + 1))), (0, .ref 38), (1, .int kv)] [] A' L Ph) → qG E mm_X7_fillWants d 2 [(2, .int (nI a)), (0, .ref 38), (1, .int kv)] [] A L Ph := by
  intro k
  induction k with
  | zero =>
    intro a A ha hiw hfl h
    have ha : a = 100 := by omega
    subst ha
    refine r_iload_n dX7_fillWants_2 rfl ?_
    refine r_bipush (v := 100) dX7_fillWants_3 rfl ?_
    refine r_icmp_ge (tgt := 47) dX7_fillWants_5 (by decide) (fun _ => ?_) (fun hqz => absurd (nI_le (Nat.le_refl 100) (by decide)) hqz)
    refine r_iconst (v := 1) dX7_fillWants_47 rfl ?_
    refine r_istore_n (loc' := [(2, .int 1), (0, .ref 38), (1, .int kv)]) dX7_fillWants_48 (by decide) rfl ?_
    refine r_iconst (v := 1) dX7_fillWants_49 rfl ?_
    refine r_istore_n (loc' := [(3, .int 1), (2, .int 1), (0, .ref 38), (1, .int kv)]) dX7_fillWants_50 (by decide) rfl ?_
    refine qG.pick [1, 0, 2, 3] rfl ?_
    exact h A Fr.rf hiw hfl
  | succ k ih =>
    intro a A ha hiw hfl h
    have ha1 : a < 100 := by omega
    refine r_iload_n dX7_fillWants_2 rfl ?_
    refine r_bipush (v := 100) dX7_fillWants_3 rfl ?_
    refine r_icmp_ge (tgt := 47) dX7_fillWants_5 (by decide) (fun hqz => absurd hqz (nI_ge ha1 (by decide))) (fun _ => ?_)
    refine r_aload_n dX7_fillWants_8 rfl ?_
    refine r_getR dX7_fillWants_9 fl_X7_49 (ly_38 hE) rfl ?_
    refine r_iload_n dX7_fillWants_12 rfl ?_
    refine r_iload_n dX7_fillWants_13 rfl ?_
    refine r_iconst (v := (-1)) dX7_fillWants_14 rfl ?_
    refine r_icmp_ne (tgt := 25) dX7_fillWants_15 (by decide) (fun b15 => ?_) (fun b15 => ?_)
    · refine r_aload_n dX7_fillWants_25 rfl ?_
      refine r_getR dX7_fillWants_26 fl_X7_46 (ly_38 hE) rfl ?_
      refine r_iload_n dX7_fillWants_29 rfl ?_
      refine r_ialdN dX7_fillWants_30 (ly_48 hE) (by omega) (by decide) ?_
      refine r_rw (y := farP S p (nI a)) (hfl.1 a ha1) ?_
      refine r_iload_n dX7_fillWants_31 rfl ?_
      refine r_icmp_lt (tgt := 39) dX7_fillWants_32 (by decide) (fun b32 => ?_) (fun b32 => ?_)
      · refine r_iconst (v := (-1)) dX7_fillWants_39 rfl ?_
        refine r_iastN dX7_fillWants_40 (ly_49 hE) (by omega) (by decide) ?_
        refine r_iinc (v := (nI (a + 1))) (loc' := [(2, .int (nI (a + 1))), (0, .ref 38), (1, .int kv)]) dX7_fillWants_41 rfl ((nI_succ _).symm) (by decide) rfl ?_
        refine r_goto (tgt := 2) dX7_fillWants_44 (by decide) ?_
        refine qG.pick [0, 1, 2] rfl ?_
        exact ih (a + 1) _ (by omega) (hiw.put (by first | exact Or.inl ⟨rfl, ((hG a ha1).1 b15).mpr (nI_z (by omega) b19)⟩ | exact Or.inr ⟨rfl, fun q => b19 (by rw [((hG a ha1).1 b15).mp q]; rfl)⟩ | exact Or.inl ⟨rfl, ((hG a ha1).2 b15).mpr (i_nlt b32)⟩ | exact Or.inr ⟨rfl, fun q => i_nle (((hG a ha1).2 b15).mp q) b32⟩)) (hfl.fr (s2_ne (by decide)) (s2_ne (by decide))) (fun A' f => h A' ((Fr.s2 (by decide)).tr f))
      · refine r_iconst (v := 0) dX7_fillWants_35 rfl ?_
        refine r_goto (tgt := 40) dX7_fillWants_36 (by decide) ?_
        refine r_iastN dX7_fillWants_40 (ly_49 hE) (by omega) (by decide) ?_
        refine r_iinc (v := (nI (a + 1))) (loc' := [(2, .int (nI (a + 1))), (0, .ref 38), (1, .int kv)]) dX7_fillWants_41 rfl ((nI_succ _).symm) (by decide) rfl ?_
        refine r_goto (tgt := 2) dX7_fillWants_44 (by decide) ?_
        refine qG.pick [0, 1, 2] rfl ?_
        exact ih (a + 1) _ (by omega) (hiw.put (by first | exact Or.inl ⟨rfl, ((hG a ha1).1 b15).mpr (nI_z (by omega) b19)⟩ | exact Or.inr ⟨rfl, fun q => b19 (by rw [((hG a ha1).1 b15).mp q]; rfl)⟩ | exact Or.inl ⟨rfl, ((hG a ha1).2 b15).mpr (i_nlt b32)⟩ | exact Or.inr ⟨rfl, fun q => i_nle (((hG a ha1).2 b15).mp q) b32⟩)) (hfl.fr (s2_ne (by decide)) (s2_ne (by decide))) (fun A' f => h A' ((Fr.s2 (by decide)).tr f))
    · refine r_iload_n dX7_fillWants_18 rfl ?_
      refine r_if_ne (tgt := 39) dX7_fillWants_19 (by decide) (fun b19 => ?_) (fun b19 => ?_)
      · refine r_iconst (v := (-1)) dX7_fillWants_39 rfl ?_
        refine r_iastN dX7_fillWants_40 (ly_49 hE) (by omega) (by decide) ?_
        refine r_iinc (v := (nI (a + 1))) (loc' := [(2, .int (nI (a + 1))), (0, .ref 38), (1, .int kv)]) dX7_fillWants_41 rfl ((nI_succ _).symm) (by decide) rfl ?_
        refine r_goto (tgt := 2) dX7_fillWants_44 (by decide) ?_
        refine qG.pick [0, 1, 2] rfl ?_
        exact ih (a + 1) _ (by omega) (hiw.put (by first | exact Or.inl ⟨rfl, ((hG a ha1).1 b15).mpr (nI_z (by omega) b19)⟩ | exact Or.inr ⟨rfl, fun q => b19 (by rw [((hG a ha1).1 b15).mp q]; rfl)⟩ | exact Or.inl ⟨rfl, ((hG a ha1).2 b15).mpr (i_nlt b32)⟩ | exact Or.inr ⟨rfl, fun q => i_nle (((hG a ha1).2 b15).mp q) b32⟩)) (hfl.fr (s2_ne (by decide)) (s2_ne (by decide))) (fun A' f => h A' ((Fr.s2 (by decide)).tr f))
      · refine r_goto (tgt := 35) dX7_fillWants_22 (by decide) ?_
        refine r_iconst (v := 0) dX7_fillWants_35 rfl ?_
        refine r_goto (tgt := 40) dX7_fillWants_36 (by decide) ?_
        refine r_iastN dX7_fillWants_40 (ly_49 hE) (by omega) (by decide) ?_
        refine r_iinc (v := (nI (a + 1))) (loc' := [(2, .int (nI (a + 1))), (0, .ref 38), (1, .int kv)]) dX7_fillWants_41 rfl ((nI_succ _).symm) (by decide) rfl ?_
        refine r_goto (tgt := 2) dX7_fillWants_44 (by decide) ?_
        refine qG.pick [0, 1, 2] rfl ?_
        exact ih (a + 1) _ (by omega) (hiw.put (by first | exact Or.inl ⟨rfl, ((hG a ha1).1 b15).mpr (nI_z (by omega) b19)⟩ | exact Or.inr ⟨rfl, fun q => b19 (by rw [((hG a ha1).1 b15).mp q]; rfl)⟩ | exact Or.inl ⟨rfl, ((hG a ha1).2 b15).mpr (i_nlt b32)⟩ | exact Or.inr ⟨rfl, fun q => i_nle (((hG a ha1).2 b15).mp q) b32⟩)) (hfl.fr (s2_ne (by decide)) (s2_ne (by decide))) (fun A' f => h A' ((Fr.s2 (by decide)).tr f))
set_option maxRecDepth 100000 in
set_option maxHeartbeats 1000000 in
theorem sp_fillWants (hE : hM E) (hG : ∀ a, a < 100 → (kv = -1 → (G a ↔ a = 0)) ∧ (¬ kv = -1 → (G a ↔ kv ≤ farP S p (nI a)))) (hfl : FLL A S p) (h : ∀ A', Fr [49] A A' → WD (A' 49) (gP S p) G → Ph none A' L) : qC E mm_X7_fillWants d [.ref 38, .int kv] A L Ph := by
  refine qC.enter (by decide) (Nat.le_of_ble_eq_true rfl) ?_
  refine r_iconst (v := 0) dX7_fillWants_0 rfl ?_
  refine r_istore_n (loc' := [(2, .int 0), (0, .ref 38), (1, .int kv)]) dX7_fillWants_1 (by decide) rfl ?_
  refine qG.pick [0, 1, 2] rfl ?_
  exact iw_loop hE hG 100 0 A (by omega) (fun b hb => absurd hb (Nat.not_lt_zero _)) hfl (fun A1 f1 hiw hfl1 => fw_main hE 101 0 A1 (by omega) (Nat.zero_le _) hiw.ps hfl1 (fun A' f => h A' (f1.tr f)))
end RFW
/-! what is reached -/
noncomputable def rbP (S : mA) (p a : Nat) : Nat := @ite Nat (∃ K, eP S p K = a) (Classical.propDecidable _) 1 0
theorem rbP_1 {S : mA} {p a : Nat} : rbP S p a = 1 ↔ ∃ K, eP S p K = a := by
  unfold rbP
  by_cases q : ∃ K, eP S p K = a
  · rw [if_pos q]; exact ⟨fun _ => q, fun _ => rfl⟩
  · rw [if_neg q]; exact ⟨fun z => absurd z (by decide), fun z => absurd z q⟩
theorem rbP_01 (S : mA) (p a : Nat) : rbP S p a = 0 ∨ rbP S p a = 1 := by
  unfold rbP
  by_cases q : ∃ K, eP S p K = a
  · rw [if_pos q]; exact Or.inr rfl
  · rw [if_neg q]; exact Or.inl rfl
def on (v : Int32) : Nat := if v = 1 then 1 else 0
abbrev co (v : Nat → Int32) : Nat := sm (fun b => on (v b)) 100
theorem co_le (v : Nat → Int32) : co v ≤ 100 := sm_le (fun a => by show on (v a) ≤ 1; unfold on; split <;> decide) 100
theorem co_up {v : Nat → Int32} {a : Nat} (ha : a < 100) (hv : v a = 0) : co (upd v a 1) = co v + 1 := by
  have := sm_one (f := fun b => on (v b)) (h := fun b => on (upd v a 1 b)) (a := a) (fun x hx => by show on (upd v a 1 x) = on (v x); rw [u_no hx]) 100 ha
  have n1 : on (upd v a 1 a) = 1 := by rw [upd_eq]; rfl
  have n0 : on (v a) = 0 := by rw [hv]; rfl
  simp only [n1, n0] at this
  show sm (fun b => on (upd v a 1 b)) 100 = sm (fun b => on (v b)) 100 + 1
  omega
theorem upd_self {v : Nat → Int32} {a : Nat} {x : Int32} (h : v a = x) : upd v a x = v := by
  funext b
  by_cases e : b = a
  · rw [e, upd_eq, h]
  · rw [u_no e]
def BE (v : Nat → Int32) (S : mA) (p : Nat) : Prop := (∀ b, b < 100 → v b = 0 ∨ v b = 1) ∧ (∀ b, b < 100 → v b = 1 → ∃ K, eP S p K = b) ∧ v (aP S p) = 1
def PR (v : Nat → Int32) (S : mA) (p c0 a w : Nat) (mo : Int32) : Prop := BE v S p ∧ ((mo = 0 ∧ co v = c0 ∧ (∀ b u, b < a → u < 6 → v b = 1 → v (gP S p b u) = 1) ∧ (∀ u, u < w → v a = 1 → v (gP S p a u) = 1)) ∨ (mo = 1 ∧ c0 < co v))
theorem PR.next {v : Nat → Int32} {S : mA} {p c0 a : Nat} {mo : Int32} (h : PR v S p c0 a 6 mo) : PR v S p c0 (a + 1) 0 mo := by
  refine ⟨h.1, ?_⟩
  rcases h.2 with ⟨e, e2, h3, h4⟩ | q
  · refine Or.inl ⟨e, e2, fun b u hb hu hv => ?_, fun u hu => absurd hu (Nat.not_lt_zero _)⟩
    rcases Nat.lt_or_ge b a with q | q
    · exact h3 b u q hu hv
    · rw [show b = a by omega] at hv ⊢; exact h4 u hu hv
  · exact Or.inr q
theorem PR.skip {v : Nat → Int32} {S : mA} {p c0 a w : Nat} {mo : Int32} (h : PR v S p c0 a w mo) (hv : v a = 0) : PR v S p c0 (a + 1) 0 mo := by
  refine PR.next ⟨h.1, ?_⟩
  rcases h.2 with ⟨e, e2, h3, h4⟩ | q
  · exact Or.inl ⟨e, e2, h3, fun u hu z => absurd (hv.symm.trans z) (by decide)⟩
  · exact Or.inr q
/-- to has been met -/
theorem PR.had {v : Nat → Int32} {S : mA} {p c0 a w : Nat} {mo : Int32} (h : PR v S p c0 a w mo) (ht : v (gP S p a w) = 1) : PR (upd v (gP S p a w) 1) S p c0 a (w + 1) mo := by
  rw [upd_self ht]
  refine ⟨h.1, ?_⟩
  rcases h.2 with ⟨e, e2, h3, h4⟩ | q
  · refine Or.inl ⟨e, e2, h3, fun u hu z => ?_⟩
    rcases Nat.lt_or_ge u w with q | q
    · exact h4 u q z
    · rw [show u = w by omega]; exact ht
  · exact Or.inr q
/-- it has not -/
theorem PR.new {v : Nat → Int32} {S : mA} {p c0 a w : Nat} {mo : Int32} (h : PR v S p c0 a w mo) (ha : a < 100) (hw : w < 6) (hv : v a = 1) (ht : v (gP S p a w) = 0) : PR (upd v (gP S p a w) 1) S p c0 a (w + 1) 1 := by
  have hg := (gP_ok S p a w).1
  have hc := co_up hg ht
  obtain ⟨⟨b1, b2, b3⟩, h2⟩ := h
  refine ⟨⟨fun b hb => ?_, fun b hb => ?_, ?_⟩, Or.inr ⟨rfl, ?_⟩⟩
  · by_cases e : b = gP S p a w
    · rw [e, upd_eq]; exact Or.inr rfl
    · rw [u_no e]; exact b1 b hb
  · by_cases e : b = gP S p a w
    · intro _
      obtain ⟨K, hK⟩ := b2 a ha hv
      exact ⟨6 * K + w + 1, by rw [e]; show en (gP S p) (aP S p) _ = _; rw [en_s hw]; rw [show en (gP S p) (aP S p) K = a from hK]⟩
    · rw [u_no e]; exact b2 b hb
  · by_cases e : aP S p = gP S p a w
    · rw [e, upd_eq]
    · rw [u_no e]; exact b3
  · rcases h2 with ⟨_, e2, _, _⟩ | ⟨_, q⟩ <;> omega
theorem PR.done {v : Nat → Int32} {S : mA} {p c0 : Nat} (ha : aP S p < 100) (h : PR v S p c0 100 0 0) : ∀ b, b < 100 → v b = nI (rbP S p b) := by
  obtain ⟨⟨b1, b2, b3⟩, h2⟩ := h
  rcases h2 with ⟨_, _, h3, _⟩ | ⟨q, _⟩
  · have all : ∀ K, v (eP S p K) = 1 := by
      intro K
      induction K using Nat.strongRecOn with
      | _ K ih =>
        rcases k_cases K with rfl | ⟨M, w, hw, rfl, hM⟩
        · show v (en (gP S p) (aP S p) 0) = 1
          rw [en_0]; exact b3
        · show v (en (gP S p) (aP S p) _) = 1
          rw [en_s hw]
          exact h3 _ w (en_lt (fun a w _ _ => (gP_ok S p a w).1) ha M) hw (ih M hM)
    intro b hb
    rcases b1 b hb with e | e
    · rcases rbP_01 S p b with q | q
      · rw [e, q]; rfl
      · obtain ⟨K, hK⟩ := rbP_1.mp q
        have := all K
        rw [hK, e] at this
        exact absurd this (by decide)
    · rw [e, rbP_1.mpr (b2 b hb e)]; rfl
  · exact absurd q (by decide)
section RRE
variable {E : mE} {d : Nat} {A S : mA} {L : mJ} {Ph : mP} {T n z p c0 : Nat} {fv : Int32}
set_option maxRecDepth 100000 in
set_option maxHeartbeats 1000000 in
theorem ri_loop (hE : hM E) {a : Nat} (ha : a < 100) : ∀ (k w : Nat) (mo : Int32) (A : mA), w + k = 6 → PR (A 50) S p c0 a w mo → FLL A S p → (∀ A' mo, Fr [50] A A' → PR (A' 50) S p c0 (a + 1) 0 mo → FLL A' S p → qG E mm_X7_reach d 113 [(3, .int (nI a)), (2, .int mo), (0, .ref 38), (1, .int fv)] [] A' L Ph) → qG E mm_X7_reach d 49 [(4, .int (nI w)), (3, .int (nI a)), (2, .int mo), (0, .ref 38), (1, .int fv)] [] A L Ph := by
  intro k
  induction k with
  | zero =>
    intro w mo A hw hpr hfl h
    have hw : w = 6 := by omega
    subst hw
    refine r_iload dX7_reach_49 rfl ?_
    refine r_bipush (v := 6) dX7_reach_51 rfl ?_
    refine r_icmp_ge (tgt := 113) dX7_reach_53 (by decide) (fun _ => ?_) (fun hqz => absurd (nI_le (Nat.le_refl 6) (by decide)) hqz)
    refine qG.pick [1, 2, 3, 4] rfl ?_
    exact h A mo Fr.rf hpr.next hfl
  | succ k ih =>
    intro w mo A hw hpr hfl h
    have hw6 : w < 6 := by omega
    have hg := (gP_ok S p a w).1
    rcases hpr.1.1 a ha with hv | hv
    · refine r_iload dX7_reach_49 rfl ?_
      refine r_bipush (v := 6) dX7_reach_51 rfl ?_
      refine r_icmp_ge (tgt := 113) dX7_reach_53 (by decide) (fun hqz => absurd hqz (nI_ge hw6 (by decide))) (fun _ => ?_)
      refine r_aload_n dX7_reach_56 rfl ?_
      refine r_getR dX7_reach_57 fl_X7_52 (ly_38 hE) rfl ?_
      refine r_iload_n dX7_reach_60 rfl ?_
      refine r_zaldN dX7_reach_61 (ly_50 hE) (by omega) (by decide) ?_
      refine r_rw (y := 0) hv ?_
      refine r_if_eq (tgt := 113) dX7_reach_62 (by decide) (fun _ => ?_) (fun hqz => absurd (by decide) hqz)
      refine qG.pick [1, 2, 3, 4] rfl ?_
      exact h A mo Fr.rf (hpr.skip hv) hfl
    · refine r_iload dX7_reach_49 rfl ?_
      refine r_bipush (v := 6) dX7_reach_51 rfl ?_
      refine r_icmp_ge (tgt := 113) dX7_reach_53 (by decide) (fun hqz => absurd hqz (nI_ge hw6 (by decide))) (fun _ => ?_)
      refine r_aload_n dX7_reach_56 rfl ?_
      refine r_getR dX7_reach_57 fl_X7_52 (ly_38 hE) rfl ?_
      refine r_iload_n dX7_reach_60 rfl ?_
      refine r_zaldN dX7_reach_61 (ly_50 hE) (by omega) (by decide) ?_
      refine r_rw (y := 1) hv ?_
      refine r_if_eq (tgt := 113) dX7_reach_62 (by decide) (fun hqz => absurd hqz (by decide)) (fun _ => ?_)
      refine r_aload_n dX7_reach_65 rfl ?_
      refine r_getR dX7_reach_66 fl_X7_43 (ly_38 hE) rfl ?_
      refine r_bipush (v := 6) dX7_reach_69 rfl ?_
      refine r_iload_n dX7_reach_71 rfl ?_
      refine r_imul dX7_reach_72 ?_
      refine r_iload dX7_reach_73 rfl ?_
      refine r_iadd dX7_reach_75 ?_
      refine r_rw (y := nI (6 * a + w)) (show nI 6 * nI a + nI w = _ by rw [pk_mul, nI_add]) ?_
      refine r_ialdN dX7_reach_76 (ly_47 hE) (by omega) (by decide) ?_
      refine r_rw (y := nI (gP S p a w)) (hfl.2 a w ha hw6) ?_
      refine r_istore (loc' := [(5, .int (nI (gP S p a w))), (4, .int (nI w)), (3, .int (nI a)), (2, .int mo), (0, .ref 38), (1, .int fv)]) dX7_reach_77 (by decide) rfl ?_
      refine r_iload_n dX7_reach_79 rfl ?_
      refine r_if_ne (tgt := 93) dX7_reach_80 (by decide) (fun b80 => ?_) (fun b80 => ?_)
      · refine r_iconst (v := 1) dX7_reach_93 rfl ?_
        refine r_goto (tgt := 98) dX7_reach_94 (by decide) ?_
        refine r_istore_n (loc' := [(2, .int 1), (5, .int (nI (gP S p a w))), (4, .int (nI w)), (3, .int (nI a)), (0, .ref 38), (1, .int fv)]) dX7_reach_98 (by decide) rfl ?_
        refine r_aload_n dX7_reach_99 rfl ?_
        refine r_getR dX7_reach_100 fl_X7_52 (ly_38 hE) rfl ?_
        refine r_iload dX7_reach_103 rfl ?_
        refine r_iconst (v := 1) dX7_reach_105 rfl ?_
        refine r_zastN dX7_reach_106 (ly_50 hE) (by omega) (by decide) (by decide) ?_
        have f1 : Fr [50] A (s2 A 50 (gP S p a w) 1) := Fr.s2 (by decide)
        have hfl1 := hfl.fr (f1 47 (by decide)) (f1 48 (by decide))
        have e50 : s2 A 50 (gP S p a w) 1 50 = upd (A 50) (gP S p a w) 1 := s2_eq
        refine r_iinc (v := (nI (w + 1))) (loc' := [(4, .int (nI (w + 1))), (2, .int 1), (5, .int (nI (gP S p a w))), (3, .int (nI a)), (0, .ref 38), (1, .int fv)]) dX7_reach_107 rfl ((nI_succ _).symm) (by decide) rfl ?_
        refine r_goto (tgt := 49) dX7_reach_110 (by decide) ?_
        refine qG.pick [0, 3, 1, 4, 5] rfl ?_
        rcases hpr.1.1 _ hg with ht | ht
        · have hq := hpr.new ha hw6 hv ht
          rw [← e50] at hq
          first | exact ih (w + 1) 1 _ (by omega) hq hfl1 (fun A' mo' f => h A' mo' (f1.tr f)) | exact absurd ht b90
        · have hq := hpr.had ht
          rw [← e50] at hq
          rcases hpr.2 with ⟨e0, _⟩ | ⟨e0, _⟩
          · rw [e0] at hq
            first | exact absurd e0 b80 | exact ih (w + 1) 0 _ (by omega) hq hfl1 (fun A' mo' f => h A' mo' (f1.tr f)) | exact absurd (ht.symm.trans b90) (by decide)
          · rw [e0] at hq
            first | exact ih (w + 1) 1 _ (by omega) hq hfl1 (fun A' mo' f => h A' mo' (f1.tr f)) | exact absurd (e0.symm.trans b80) (by decide)
      · refine r_aload_n dX7_reach_83 rfl ?_
        refine r_getR dX7_reach_84 fl_X7_52 (ly_38 hE) rfl ?_
        refine r_iload dX7_reach_87 rfl ?_
        refine r_zaldN dX7_reach_89 (ly_50 hE) (by omega) (by decide) ?_
        refine r_if_ne (tgt := 97) dX7_reach_90 (by decide) (fun b90 => ?_) (fun b90 => ?_)
        · refine r_iconst (v := 0) dX7_reach_97 rfl ?_
          refine r_istore_n (loc' := [(2, .int 0), (5, .int (nI (gP S p a w))), (4, .int (nI w)), (3, .int (nI a)), (0, .ref 38), (1, .int fv)]) dX7_reach_98 (by decide) rfl ?_
          refine r_aload_n dX7_reach_99 rfl ?_
          refine r_getR dX7_reach_100 fl_X7_52 (ly_38 hE) rfl ?_
          refine r_iload dX7_reach_103 rfl ?_
          refine r_iconst (v := 1) dX7_reach_105 rfl ?_
          refine r_zastN dX7_reach_106 (ly_50 hE) (by omega) (by decide) (by decide) ?_
          have f1 : Fr [50] A (s2 A 50 (gP S p a w) 1) := Fr.s2 (by decide)
          have hfl1 := hfl.fr (f1 47 (by decide)) (f1 48 (by decide))
          have e50 : s2 A 50 (gP S p a w) 1 50 = upd (A 50) (gP S p a w) 1 := s2_eq
          refine r_iinc (v := (nI (w + 1))) (loc' := [(4, .int (nI (w + 1))), (2, .int 0), (5, .int (nI (gP S p a w))), (3, .int (nI a)), (0, .ref 38), (1, .int fv)]) dX7_reach_107 rfl ((nI_succ _).symm) (by decide) rfl ?_
          refine r_goto (tgt := 49) dX7_reach_110 (by decide) ?_
          refine qG.pick [0, 3, 1, 4, 5] rfl ?_
          rcases hpr.1.1 _ hg with ht | ht
          · have hq := hpr.new ha hw6 hv ht
            rw [← e50] at hq
            first | exact ih (w + 1) 1 _ (by omega) hq hfl1 (fun A' mo' f => h A' mo' (f1.tr f)) | exact absurd ht b90
          · have hq := hpr.had ht
            rw [← e50] at hq
            rcases hpr.2 with ⟨e0, _⟩ | ⟨e0, _⟩
            · rw [e0] at hq
              first | exact absurd e0 b80 | exact ih (w + 1) 0 _ (by omega) hq hfl1 (fun A' mo' f => h A' mo' (f1.tr f)) | exact absurd (ht.symm.trans b90) (by decide)
            · rw [e0] at hq
              first | exact ih (w + 1) 1 _ (by omega) hq hfl1 (fun A' mo' f => h A' mo' (f1.tr f)) | exact absurd (e0.symm.trans b80) (by decide)
        · refine r_iconst (v := 1) dX7_reach_93 rfl ?_
          refine r_goto (tgt := 98) dX7_reach_94 (by decide) ?_
          refine r_istore_n (loc' := [(2, .int 1), (5, .int (nI (gP S p a w))), (4, .int (nI w)), (3, .int (nI a)), (0, .ref 38), (1, .int fv)]) dX7_reach_98 (by decide) rfl ?_
          refine r_aload_n dX7_reach_99 rfl ?_
          refine r_getR dX7_reach_100 fl_X7_52 (ly_38 hE) rfl ?_
          refine r_iload dX7_reach_103 rfl ?_
          refine r_iconst (v := 1) dX7_reach_105 rfl ?_
          refine r_zastN dX7_reach_106 (ly_50 hE) (by omega) (by decide) (by decide) ?_
          have f1 : Fr [50] A (s2 A 50 (gP S p a w) 1) := Fr.s2 (by decide)
          have hfl1 := hfl.fr (f1 47 (by decide)) (f1 48 (by decide))
          have e50 : s2 A 50 (gP S p a w) 1 50 = upd (A 50) (gP S p a w) 1 := s2_eq
          refine r_iinc (v := (nI (w + 1))) (loc' := [(4, .int (nI (w + 1))), (2, .int 1), (5, .int (nI (gP S p a w))), (3, .int (nI a)), (0, .ref 38), (1, .int fv)]) dX7_reach_107 rfl ((nI_succ _).symm) (by decide) rfl ?_
          refine r_goto (tgt := 49) dX7_reach_110 (by decide) ?_
          refine qG.pick [0, 3, 1, 4, 5] rfl ?_
          rcases hpr.1.1 _ hg with ht | ht
          · have hq := hpr.new ha hw6 hv ht
            rw [← e50] at hq
            first | exact ih (w + 1) 1 _ (by omega) hq hfl1 (fun A' mo' f => h A' mo' (f1.tr f)) | exact absurd ht b90
          · have hq := hpr.had ht
            rw [← e50] at hq
            rcases hpr.2 with ⟨e0, _⟩ | ⟨e0, _⟩
            · rw [e0] at hq
              first | exact absurd e0 b80 | exact ih (w + 1) 0 _ (by omega) hq hfl1 (fun A' mo' f => h A' mo' (f1.tr f)) | exact absurd (ht.symm.trans b90) (by decide)
            · rw [e0] at hq
              first | exact ih (w + 1) 1 _ (by omega) hq hfl1 (fun A' mo' f => h A' mo' (f1.tr f)) | exact absurd (e0.symm.trans b80) (by decide)
set_option maxRecDepth 100000 in
set_option maxHeartbeats 1000000 in
theorem ro_loop (hE : hM E) : ∀ (k a : Nat) (mo : Int32) (A : mA), a + k = 100 → PR (A 50) S p c0 a 0 mo → FLL A S p → (∀ A' mo, Fr [50] A A' → PR (A' 50) S p c0 100 0 mo → FLL A' S p → qG E mm_X7_reach d 32 [(2, .int mo), (0, .ref 38), (1, .int fv)] [] A' L Ph) → qG E mm_X7_reach d 40 [(3, .int (nI a)), (2, .int mo), (0, .ref 38), (1, .int fv)] [] A L Ph := by
  intro k
  induction k with
  | zero =>
    intro a mo A ha hpr hfl h
    have ha : a = 100 := by omega
    subst ha
    refine r_iload_n dX7_reach_40 rfl ?_
    refine r_bipush (v := 100) dX7_reach_41 rfl ?_
    refine r_icmp_ge (tgt := 119) dX7_reach_43 (by decide) (fun _ => ?_) (fun hqz => absurd (nI_le (Nat.le_refl 100) (by decide)) hqz)
    refine r_goto (tgt := 32) dX7_reach_119 (by decide) ?_
    refine qG.pick [1, 2, 3] rfl ?_
    exact h A mo Fr.rf hpr hfl
  | succ k ih =>
    intro a mo A ha hpr hfl h
    have ha1 : a < 100 := by omega
    refine r_iload_n dX7_reach_40 rfl ?_
    refine r_bipush (v := 100) dX7_reach_41 rfl ?_
    refine r_icmp_ge (tgt := 119) dX7_reach_43 (by decide) (fun hqz => absurd hqz (nI_ge ha1 (by decide))) (fun _ => ?_)
    refine r_iconst (v := 0) dX7_reach_46 rfl ?_
    refine r_istore (loc' := [(4, .int 0), (3, .int (nI a)), (2, .int mo), (0, .ref 38), (1, .int fv)]) dX7_reach_47 (by decide) rfl ?_
    refine qG.pick [0, 1, 2, 3, 4] rfl ?_
    refine ri_loop hE ha1 6 0 mo A (by omega) hpr hfl (fun A1 mo1 f1 hpr1 hfl1 => ?_)
    refine r_iinc (v := (nI (a + 1))) (loc' := [(3, .int (nI (a + 1))), (2, .int mo1), (0, .ref 38), (1, .int fv)]) dX7_reach_113 rfl ((nI_succ _).symm) (by decide) rfl ?_
    refine r_goto (tgt := 40) dX7_reach_116 (by decide) ?_
    refine qG.pick [0, 1, 2, 3] rfl ?_
    exact ih (a + 1) mo1 A1 (by omega) hpr1 hfl1 (fun A' mo' f => h A' mo' (f1.tr f))
set_option maxRecDepth 100000 in
set_option maxHeartbeats 1000000 in
theorem rm_loop (hE : hM E) (ha : aP S p < 100) : ∀ (k : Nat) (A : mA), 100 < k + co (A 50) → BE (A 50) S p → FLL A S p → (∀ A', Fr [50] A A' → (∀ b, b < 100 → A' 50 b = nI (rbP S p b)) → Ph none A' L) → qG E mm_X7_reach d 32 [(2, .int 1), (0, .ref 38), (1, .int fv)] [] A L Ph := by
  intro k
  induction k with
  | zero =>
    intro A hk hbe hfl h
    have := co_le (A 50)
    omega
  | succ k ih =>
    intro A hk hbe hfl h
    refine r_iload_n dX7_reach_32 rfl ?_
    refine r_if_eq (tgt := 122) dX7_reach_33 (by decide) (fun hqz => absurd hqz (by decide)) (fun _ => ?_)
    refine r_iconst (v := 0) dX7_reach_36 rfl ?_
    refine r_istore_n (loc' := [(2, .int 0), (0, .ref 38), (1, .int fv)]) dX7_reach_37 (by decide) rfl ?_
    refine r_iconst (v := 0) dX7_reach_38 rfl ?_
    refine r_istore_n (loc' := [(3, .int 0), (2, .int 0), (0, .ref 38), (1, .int fv)]) dX7_reach_39 (by decide) rfl ?_
    refine qG.pick [0, 1, 2, 3] rfl ?_
    refine ro_loop (c0 := co (A 50)) hE 100 0 0 A (by omega) ⟨hbe, Or.inl ⟨rfl, rfl, fun b u hb => absurd hb (Nat.not_lt_zero _), fun u hu => absurd hu (Nat.not_lt_zero _)⟩⟩ hfl (fun A1 mo f1 hpr1 hfl1 => ?_)
    rcases hpr1.2 with ⟨e0, _⟩ | ⟨e0, hc⟩
    · subst e0
      refine r_iload_n dX7_reach_32 rfl ?_
      refine r_if_eq (tgt := 122) dX7_reach_33 (by decide) (fun _ => ?_) (fun hqz => absurd (by decide) hqz)
      refine r_return dX7_reach_122 rfl ?_
      exact h A1 f1 (hpr1.done ha)
    · subst e0
      exact ih A1 (by omega) hpr1.1 hfl1 (fun A' f => h A' (f1.tr f))
set_option maxRecDepth 100000 in
set_option maxHeartbeats 1000000 in
theorem rinit_loop (hE : hM E) {x : Nat} (hx : x < 100) : ∀ (k a : Nat) (A : mA), a + k = 100 → (∀ b, b < a → A 50 b = if b = x then 1 else 0) → FLL A S p → (∀ A', Fr [50] A A' → (∀ b, b < 100 → A' 50 b = if b = x then 1 else 0) → FLL A' S p → qG E mm_X7_reach d 32 [(2, .int 1), (0, .ref 38), (1, .int (nI x))] [] A' L Ph) → qG E mm_X7_reach d 2 [(2, .int (nI a)), (0, .ref 38), (1, .int (nI x))] [] A L Ph := by
  intro k
  induction k with
  | zero =>
    intro a A ha hb hfl h
    have ha : a = 100 := by omega
    subst ha
    refine r_iload_n dX7_reach_2 rfl ?_
    refine r_bipush (v := 100) dX7_reach_3 rfl ?_
    refine r_icmp_ge (tgt := 30) dX7_reach_5 (by decide) (fun _ => ?_) (fun hqz => absurd (nI_le (Nat.le_refl 100) (by decide)) hqz)
    refine r_iconst (v := 1) dX7_reach_30 rfl ?_
    refine r_istore_n (loc' := [(2, .int 1), (0, .ref 38), (1, .int (nI x))]) dX7_reach_31 (by decide) rfl ?_
    refine qG.pick [0, 1, 2] rfl ?_
    exact h A Fr.rf hb hfl
  | succ k ih =>
    intro a A ha hb hfl h
    have ha1 : a < 100 := by omega
    have key : ∀ y : Int32, y = (if a = x then 1 else 0) → ∀ b, b < a + 1 → s2 A 50 a y 50 b = if b = x then 1 else 0 := by
      intro y hy b hb1
      by_cases e : b = a
      · rw [e, s2_same, hy]
      · rw [s2_nj (fun _ => e)]; exact hb b (by omega)
    refine r_iload_n dX7_reach_2 rfl ?_
    refine r_bipush (v := 100) dX7_reach_3 rfl ?_
    refine r_icmp_ge (tgt := 30) dX7_reach_5 (by decide) (fun hqz => absurd hqz (nI_ge ha1 (by decide))) (fun _ => ?_)
    refine r_aload_n dX7_reach_8 rfl ?_
    refine r_getR dX7_reach_9 fl_X7_52 (ly_38 hE) rfl ?_
    refine r_iload_n dX7_reach_12 rfl ?_
    refine r_iload_n dX7_reach_13 rfl ?_
    refine r_iload_n dX7_reach_14 rfl ?_
    refine r_icmp_ne (tgt := 22) dX7_reach_15 (by decide) (fun b15 => ?_) (fun b15 => ?_)
    · refine r_iconst (v := 0) dX7_reach_22 rfl ?_
      refine r_zastN dX7_reach_23 (ly_50 hE) (by omega) (by decide) (by decide) ?_
      refine r_iinc (v := (nI (a + 1))) (loc' := [(2, .int (nI (a + 1))), (0, .ref 38), (1, .int (nI x))]) dX7_reach_24 rfl ((nI_succ _).symm) (by decide) rfl ?_
      refine r_goto (tgt := 2) dX7_reach_27 (by decide) ?_
      refine qG.pick [0, 1, 2] rfl ?_
      exact ih (a + 1) _ (by omega) (key _ (by first | rw [if_neg (fun q => b15 (by rw [q]))] | rw [if_pos ((nI_eq (by omega) (by omega)).mp b15)])) (hfl.fr (s2_ne (by decide)) (s2_ne (by decide))) (fun A' f => h A' ((Fr.s2 (by decide)).tr f))
    · refine r_iconst (v := 1) dX7_reach_18 rfl ?_
      refine r_goto (tgt := 23) dX7_reach_19 (by decide) ?_
      refine r_zastN dX7_reach_23 (ly_50 hE) (by omega) (by decide) (by decide) ?_
      refine r_iinc (v := (nI (a + 1))) (loc' := [(2, .int (nI (a + 1))), (0, .ref 38), (1, .int (nI x))]) dX7_reach_24 rfl ((nI_succ _).symm) (by decide) rfl ?_
      refine r_goto (tgt := 2) dX7_reach_27 (by decide) ?_
      refine qG.pick [0, 1, 2] rfl ?_
      exact ih (a + 1) _ (by omega) (key _ (by first | rw [if_neg (fun q => b15 (by rw [q]))] | rw [if_pos ((nI_eq (by omega) (by omega)).mp b15)])) (hfl.fr (s2_ne (by decide)) (s2_ne (by decide))) (fun A' f => h A' ((Fr.s2 (by decide)).tr f))
set_option maxRecDepth 100000 in
set_option maxHeartbeats 1000000 in
theorem sp_reach (hE : hM E) (ha : aP S p < 100) (hfl : FLL A S p) (h : ∀ A', Fr [50] A A' → (∀ b, b < 100 → A' 50 b = nI (rbP S p b)) → Ph none A' L) : qC E mm_X7_reach d [.ref 38, .int (nI (aP S p))] A L Ph := by
  refine qC.enter (by decide) (Nat.le_of_ble_eq_true rfl) ?_
  refine r_iconst (v := 0) dX7_reach_0 rfl ?_
  refine r_istore_n (loc' := [(2, .int 0), (0, .ref 38), (1, .int (nI (aP S p)))]) dX7_reach_1 (by decide) rfl ?_
  refine qG.pick [0, 1, 2] rfl ?_
  refine rinit_loop hE ha 100 0 A (by omega) (fun b hb => absurd hb (Nat.not_lt_zero _)) hfl (fun A1 f1 hb hfl1 => rm_loop hE ha 101 A1 (by omega) ⟨fun b hb1 => ?_, fun b hb1 hv => ⟨0, ?_⟩, ?_⟩ hfl1 (fun A' f => h A' (f1.tr f)))
  · rw [hb b hb1]
    split
    · exact Or.inr rfl
    · exact Or.inl rfl
  · rw [hb b hb1] at hv
    show en (gP S p) (aP S p) 0 = b
    rw [en_0]
    by_cases q : b = aP S p
    · exact q.symm
    · rw [if_neg q] at hv
      exact absurd hv (by decide)
  · rw [hb _ ha]
    exact if_pos rfl
end RRE
