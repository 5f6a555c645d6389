/-! the fewest words, and the row that they are -/
theorem least_ex {P : Nat → Prop} (n : Nat) : P n → ∃ m, P m ∧ ∀ k, P k → m ≤ k := by
  induction n using Nat.strongRecOn with
  | _ n ih =>
    intro hn
    by_cases q : ∃ k, k < n ∧ P k
    · obtain ⟨k, hk, hP⟩ := q
      exact ih k hk hP
    · refine ⟨n, hn, fun k hk => ?_⟩
      rcases Nat.lt_or_ge k n with z | z
      · exact absurd ⟨k, z, hk⟩ q
      · exact z
theorem LK_ex {g : Nat → Nat → Nat} {G : Nat → Prop} {a0 n : Nat} (h : WN g G n a0) : ∃ K, LK g G a0 K := by
  obtain ⟨K, -, hG⟩ := WN_en (g := g) (a0 := a0) n 0 (by rw [en_0]; exact h)
  obtain ⟨m, h1, h2⟩ := least_ex (P := fun K => G (en g a0 K)) K hG
  exact ⟨m, h1, h2⟩
noncomputable def wwP (S : mA) (p : Nat) (G : Nat → Prop) : Int32 := @dite Int32 (∃ K, LK (gP S p) G (aP S p) K) (Classical.propDecidable _) (fun h => nI (ln (Classical.choose h))) (fun _ => -1)
noncomputable def rrP (S : mA) (p : Nat) (G : Nat → Prop) : Int32 := @dite Int32 (∃ K, LK (gP S p) G (aP S p) K) (Classical.propDecidable _) (fun h => if ln (Classical.choose h) ≤ 9 then nI (rw10 (Classical.choose h)) else -1) (fun _ => -1)
theorem wwP_t {S : mA} {p K : Nat} {G : Nat → Prop} (h : LK (gP S p) G (aP S p) K) : wwP S p G = nI (ln K) := by
  unfold wwP
  have hx : ∃ K, LK (gP S p) G (aP S p) K := ⟨K, h⟩
  rw [dif_pos hx, LK_uq (Classical.choose_spec hx) h]
theorem rrP_t {S : mA} {p K : Nat} {G : Nat → Prop} (h : LK (gP S p) G (aP S p) K) : rrP S p G = if ln K ≤ 9 then nI (rw10 K) else -1 := by
  unfold rrP
  have hx : ∃ K, LK (gP S p) G (aP S p) K := ⟨K, h⟩
  rw [dif_pos hx, LK_uq (Classical.choose_spec hx) h]
theorem wwP_f {S : mA} {p : Nat} {G : Nat → Prop} (h : ∀ n, ¬ WN (gP S p) G n (aP S p)) : wwP S p G = -1 ∧ rrP S p G = -1 := by
  have hx : ¬ ∃ K, LK (gP S p) G (aP S p) K := by
    rintro ⟨K, hK⟩
    exact h _ (LK_LV hK).1
  unfold wwP rrP
  rw [dif_neg hx, dif_neg hx]
  exact ⟨rfl, rfl⟩
theorem WD.ww {S : mA} {p : Nat} {G : Nat → Prop} {v : Nat → Int32} (h : WD v (gP S p) G) (ha : aP S p < 100) : v (aP S p) = wwP S p G := by
  rcases h _ ha with ⟨e, q⟩ | ⟨m, _, e, q⟩
  · rw [e, (wwP_f q).1]
  · obtain ⟨K, hK⟩ := LK_ex q.1
    rw [e, wwP_t hK, LV_uq q (LK_LV hK)]
theorem WD.lv {g : Nat → Nat → Nat} {G : Nat → Prop} {v : Nat → Int32} (h : WD v g G) {b r : Nat} (hb : b < 100) (hr : r ≤ 100) : v b = nI r ↔ LV g G r b := by
  rcases h b hb with ⟨e, q⟩ | ⟨m, hm, e, q⟩
  · rw [e]
    exact ⟨fun z => absurd z.symm (nI_nm1 (by omega)), fun z => absurd z.1 (q _)⟩
  · rw [e]
    refine ⟨fun z => ?_, fun z => by rw [LV_uq q z]⟩
    have hm31 : m < 2 ^ 31 := by omega
    have hr31 : r < 2 ^ 31 := by omega
    rw [← (nI_eq hm31 hr31).mp z]; exact q
theorem WD.rr1 {S : mA} {p : Nat} {G : Nat → Prop} {v : Nat → Int32} (h : WD v (gP S p) G) (ha : aP S p < 100) (e : v (aP S p) = -1) : rrP S p G = -1 := by
  rcases h _ ha with ⟨_, q⟩ | ⟨m, hm, e', q⟩
  · exact (wwP_f q).2
  · exact absurd (e'.symm.trans e) (nI_nm1 (by omega))
theorem WD.rr2 {S : mA} {p : Nat} {G : Nat → Prop} {v : Nat → Int32} (h : WD v (gP S p) G) (ha : aP S p < 100) (e : ¬ v (aP S p) = -1) (e2 : ¬ v (aP S p) ≤ 9) : rrP S p G = -1 := by
  rcases h _ ha with ⟨e', _⟩ | ⟨m, hm, e', q⟩
  · exact absurd e' e
  · obtain ⟨K, hK⟩ := LK_ex q.1
    have em := LV_uq q (LK_LV hK)
    rw [rrP_t hK, if_neg]
    intro h9
    apply e2
    rw [e']
    exact nI_le (b := 9) (by omega) (by decide)
theorem WD.go {S : mA} {p : Nat} {G : Nat → Prop} {v : Nat → Int32} (h : WD v (gP S p) G) (ha : aP S p < 100) (e : ¬ v (aP S p) = -1) (e2 : v (aP S p) ≤ 9) : ∃ m, m ≤ 9 ∧ LV (gP S p) G m (aP S p) := by
  rcases h _ ha with ⟨e', _⟩ | ⟨m, hm, e', q⟩
  · exact absurd e' e
  · refine ⟨m, ?_, q⟩
    rcases Nat.lt_or_ge 9 m with z | z
    · rw [e'] at e2
      exact absurd e2 (nI_ge (a := 9) z (by omega))
    · exact z
/-- the goals -/
abbrev Gk (S : mA) (p : Nat) (kv : Int32) : Nat → Prop := fun a => kv ≤ farP S p (nI a)
theorem Gk_h {S : mA} {p : Nat} {kv : Int32} (h : ¬ kv = -1) : ∀ a, a < 100 → (kv = -1 → (Gk S p kv a ↔ a = 0)) ∧ (¬ kv = -1 → (Gk S p kv a ↔ kv ≤ farP S p (nI a))) := fun _ _ => ⟨fun z => absurd z h, fun _ => Iff.rfl⟩
theorem G0_h {S : mA} {p : Nat} : ∀ a, a < 100 → ((-1 : Int32) = -1 → ((a = 0) ↔ a = 0)) ∧ (¬ (-1 : Int32) = -1 → ((a = 0) ↔ -1 ≤ farP S p (nI a))) := fun _ _ => ⟨fun _ => Iff.rfl, fun z => absurd rfl z⟩
theorem RS.lk {A S : mA} {p sz j : Nat} {ks : Nat → Nat} {G : Nat → Prop} (h : RS A S p sz ks) (hj : j < sz) (hG : G (eP S p (ks j))) (hf : ∀ i, i < j → ¬ G (eP S p (ks i))) : LK (gP S p) G (aP S p) (ks j) := h.1.2.LK h.2.1 hj hG hf
theorem RS.no {A S : mA} {p sz : Nat} {ks : Nat → Nat} {G : Nat → Prop} (h : RS A S p sz ks) (hf : ∀ i, i < sz → ¬ G (eP S p (ks i))) : ∀ n, ¬ WN (gP S p) G n (aP S p) := no_WN h.2.1 hf
/-- of pairs the one that needs fewest -/
def nbF (f : Nat → Int32) : Nat → Int32 × Int32
  | 0 => (-1, -1)
  | i + 1 => if ¬ f i = -1 ∧ ((nbF f i).2 = -1 ∨ f i < (nbF f i).2) then (nI i, f i) else nbF f i
theorem nbF_n (f : Nat → Int32) : ∀ i, i < 2 ^ 31 → ((nbF f i).1 = -1 ↔ (nbF f i).2 = -1) := by
  intro i
  induction i with
  | zero => intro _; exact Iff.rfl
  | succ i ih =>
    intro hi
    rw [nbF]
    by_cases q : ¬ f i = -1 ∧ ((nbF f i).2 = -1 ∨ f i < (nbF f i).2)
    · rw [if_pos q]
      exact ⟨fun z => absurd z (nI_nm1 (by omega)), fun z => absurd z q.1⟩
    · rw [if_neg q]; exact ih (by omega)
theorem nb1 {x q : Int32} (h : x = -1) : ¬ (¬ x = -1 ∧ (q = -1 ∨ x < q)) := fun z => z.1 h
theorem nb2 {x q : Int32} (h : ¬ x = -1) (h2 : q = -1) : ¬ x = -1 ∧ (q = -1 ∨ x < q) := ⟨h, Or.inl h2⟩
theorem nb3 {x q : Int32} (h2 : ¬ q = -1) (h3 : q ≤ x) : ¬ (¬ x = -1 ∧ (q = -1 ∨ x < q)) := fun z => z.2.elim h2 (fun y => i_nle h3 y)
theorem nb4 {x q : Int32} (h : ¬ x = -1) (h3 : ¬ q ≤ x) : ¬ x = -1 ∧ (q = -1 ∨ x < q) := ⟨h, Or.inr (i_ngt h3)⟩
section RFE
variable {E : mE} {d : Nat} {A S : mA} {L : mJ} {Ph : mP} {T n z p sz : Nat} {ks : Nat → Nat}
set_option maxRecDepth 100000 in
set_option maxHeartbeats 1000000 in
theorem fg_inner (hE : hM E) {kv row : Int32} {G : Nat → Prop} {x r w0 : Nat} (hfl : FLL A S p) (hwd : WD (A 49) (gP S p) G) (hx : x < 100) (hr : r < 100) (hxv : A 49 x = nI (r + 1)) (hw0 : w0 < 6) (hl : LV (gP S p) G r (gP S p x w0)) : ∀ (k w : Nat), w + k = w0 → (∀ v, v < w → ¬ LV (gP S p) G r (gP S p x v)) → (∀ w, w < 6 → LV (gP S p) G r (gP S p x w) → (∀ v, v < w → ¬ LV (gP S p) G r (gP S p x v)) → qG E mm_X7_fewest d 142 [(6, .int (nI w)), (5, .int row), (4, .int (nI x)), (0, .ref 38), (1, .int (nI p)), (2, .int kv), (3, .int 1)] [] A L Ph) → qG E mm_X7_fewest d 106 [(6, .int (nI w)), (5, .int row), (4, .int (nI x)), (0, .ref 38), (1, .int (nI p)), (2, .int kv), (3, .int 1)] [] A L Ph := by
  intro k
  induction k with
  | zero =>
    intro w hw hn h
    have hw : w = w0 := by omega
    subst hw
    have hg := (gP_ok S p x w).1

    refine r_aload_n dX7_fewest_106 rfl ?_
    refine r_getR dX7_fewest_107 fl_X7_49 (ly_38 hE) rfl ?_
    refine r_aload_n dX7_fewest_110 rfl ?_
    refine r_getR dX7_fewest_111 fl_X7_43 (ly_38 hE) rfl ?_
    refine r_bipush (v := 6) dX7_fewest_114 rfl ?_
    refine r_iload dX7_fewest_116 rfl ?_
    refine r_imul dX7_fewest_118 ?_
    refine r_iload dX7_fewest_119 rfl ?_
    refine r_iadd dX7_fewest_121 ?_
    refine r_rw (y := nI (6 * x + w)) (show nI 6 * nI x + nI w = _ by rw [pk_mul, nI_add]) ?_
    refine r_ialdN dX7_fewest_122 (ly_47 hE) (by omega) (by decide) ?_
    refine r_rw (y := nI (gP S p x w)) (hfl.2 x w hx (by omega)) ?_
    refine r_ialdN dX7_fewest_123 (ly_49 hE) (by omega) (by decide) ?_
    refine r_aload_n dX7_fewest_124 rfl ?_
    refine r_getR dX7_fewest_125 fl_X7_49 (ly_38 hE) rfl ?_
    refine r_iload dX7_fewest_128 rfl ?_
    refine r_ialdN dX7_fewest_130 (ly_49 hE) (by omega) (by decide) ?_
    refine r_rw (y := nI (r + 1)) hxv ?_
    refine r_iconst (v := 1) dX7_fewest_131 rfl ?_
    refine r_isub dX7_fewest_132 ?_
    refine r_rw (y := nI r) (show nI (r + 1) - nI 1 = _ by rw [pk_sub (by omega)]; rfl) ?_
    refine r_icmp_eq (tgt := 142) dX7_fewest_133 (by decide) (fun _ => ?_) (fun hqz => absurd ((hwd.lv hg (by omega)).mpr hl) hqz)
    refine qG.pick [0, 1, 2, 3, 4, 5, 6] rfl ?_
    exact h w hw0 hl hn
  | succ k ih =>
    intro w hw hn h
    have hg := (gP_ok S p x w).1
    refine r_aload_n dX7_fewest_106 rfl ?_
    refine r_getR dX7_fewest_107 fl_X7_49 (ly_38 hE) rfl ?_
    refine r_aload_n dX7_fewest_110 rfl ?_
    refine r_getR dX7_fewest_111 fl_X7_43 (ly_38 hE) rfl ?_
    refine r_bipush (v := 6) dX7_fewest_114 rfl ?_
    refine r_iload dX7_fewest_116 rfl ?_
    refine r_imul dX7_fewest_118 ?_
    refine r_iload dX7_fewest_119 rfl ?_
    refine r_iadd dX7_fewest_121 ?_
    refine r_rw (y := nI (6 * x + w)) (show nI 6 * nI x + nI w = _ by rw [pk_mul, nI_add]) ?_
    refine r_ialdN dX7_fewest_122 (ly_47 hE) (by omega) (by decide) ?_
    refine r_rw (y := nI (gP S p x w)) (hfl.2 x w hx (by omega)) ?_
    refine r_ialdN dX7_fewest_123 (ly_49 hE) (by omega) (by decide) ?_
    refine r_aload_n dX7_fewest_124 rfl ?_
    refine r_getR dX7_fewest_125 fl_X7_49 (ly_38 hE) rfl ?_
    refine r_iload dX7_fewest_128 rfl ?_
    refine r_ialdN dX7_fewest_130 (ly_49 hE) (by omega) (by decide) ?_
    refine r_rw (y := nI (r + 1)) hxv ?_
    refine r_iconst (v := 1) dX7_fewest_131 rfl ?_
    refine r_isub dX7_fewest_132 ?_
    refine r_rw (y := nI r) (show nI (r + 1) - nI 1 = _ by rw [pk_sub (by omega)]; rfl) ?_
    refine r_icmp_eq (tgt := 142) dX7_fewest_133 (by decide) (fun b133 => ?_) (fun b133 => ?_)
    · refine qG.pick [0, 1, 2, 3, 4, 5, 6] rfl ?_
      exact h w (by omega) ((hwd.lv hg (by omega)).mp b133) hn
    · refine r_iinc (v := (nI (w + 1))) (loc' := [(6, .int (nI (w + 1))), (5, .int row), (4, .int (nI x)), (0, .ref 38), (1, .int (nI p)), (2, .int kv), (3, .int 1)]) dX7_fewest_136 rfl ((nI_succ _).symm) (by decide) rfl ?_
      refine r_goto (tgt := 106) dX7_fewest_139 (by decide) ?_
      refine qG.pick [0, 1, 2, 3, 4, 5, 6] rfl ?_
      refine ih (w + 1) (by omega) (fun v hv => ?_) h
      rcases Nat.lt_or_ge v w with q | q
      · exact hn v q
      · rw [show v = w by omega]
        exact fun z => b133 ((hwd.lv hg (by omega)).mpr z)
set_option maxRecDepth 100000 in
set_option maxHeartbeats 1000000 in
theorem fg_loop (hE : hM E) (hW : WfS S T n z) (hp : p < n) {kv : Int32} {G : Nat → Prop} {D : Nat} (hfl : FLL A S p) (hwd : WD (A 49) (gP S p) G) (hD9 : D ≤ 9) (h0 : LV (gP S p) G D (aP S p)) (h : Ph (some (.int (rrP S p G))) A L) : ∀ (r Q : Nat), ln Q + r = D → LV (gP S p) G r (eP S p Q) → (∀ K, ln K = D → G (en (gP S p) (aP S p) K) → Q ≤ ak r K) → qG E mm_X7_fewest d 93 [(5, .int (nI (rw10 Q))), (4, .int (nI (eP S p Q))), (0, .ref 38), (1, .int (nI p)), (2, .int kv), (3, .int 1)] [] A L Ph := by
  intro r
  induction r with
  | zero =>
    intro Q hD hl hQ
    have hx := eP_lt hW hp Q
    have e := rrP_t (greedy_LK (g := gP S p) (a0 := aP S p) (G := G) (by omega) h0 hl.1 hQ)
    rw [if_pos (by omega)] at e
    rw [e] at h
    refine r_aload_n dX7_fewest_93 rfl ?_
    refine r_getR dX7_fewest_94 fl_X7_49 (ly_38 hE) rfl ?_
    refine r_iload dX7_fewest_97 rfl ?_
    refine r_ialdN dX7_fewest_99 (ly_49 hE) (by omega) (by decide) ?_
    refine r_rw (y := 0) ((hwd.lv hx (by decide)).mpr hl) ?_
    refine r_if_le (tgt := 172) dX7_fewest_100 (by decide) (fun _ => ?_) (fun hqz => absurd (by decide) hqz)
    refine r_iload dX7_fewest_172 rfl ?_
    refine r_ireturn dX7_fewest_174 rfl rfl ?_
    exact h
  | succ r ih =>
    intro Q hD hl hQ
    have hx := eP_lt hW hp Q
    obtain ⟨w0, hw0, hl0⟩ := (PS_new (n := r) (fun m hm => hl.2 m (by omega))).mpr hl
    have hxv := (hwd.lv hx (by omega)).mpr hl
    refine r_aload_n dX7_fewest_93 rfl ?_
    refine r_getR dX7_fewest_94 fl_X7_49 (ly_38 hE) rfl ?_
    refine r_iload dX7_fewest_97 rfl ?_
    refine r_ialdN dX7_fewest_99 (ly_49 hE) (by omega) (by decide) ?_
    refine r_rw (y := nI (r + 1)) hxv ?_
    refine r_if_le (tgt := 172) dX7_fewest_100 (by decide) (fun hqz => absurd hqz (nI_ge (a := 0) (Nat.zero_lt_succ r) (by omega))) (fun _ => ?_)
    refine r_iconst (v := 0) dX7_fewest_103 rfl ?_
    refine r_istore (loc' := [(6, .int 0), (5, .int (nI (rw10 Q))), (4, .int (nI (eP S p Q))), (0, .ref 38), (1, .int (nI p)), (2, .int kv), (3, .int 1)]) dX7_fewest_104 (by decide) rfl ?_
    refine qG.pick [0, 1, 2, 3, 4, 5, 6] rfl ?_
    refine fg_inner hE hfl hwd hx (by omega) hxv hw0 hl0 w0 0 (by omega) (fun v hv => absurd hv (Nat.not_lt_zero _)) (fun w hw hlw hnw => ?_)
    refine r_bipush (v := 10) dX7_fewest_142 rfl ?_
    refine r_iload dX7_fewest_144 rfl ?_
    refine r_imul dX7_fewest_146 ?_
    refine r_iload dX7_fewest_147 rfl ?_
    refine r_iadd dX7_fewest_149 ?_
    refine r_iconst (v := 1) dX7_fewest_150 rfl ?_
    refine r_iadd dX7_fewest_151 ?_
    refine r_rw (y := nI (rw10 (6 * Q + w + 1))) (show nI 10 * nI (rw10 Q) + nI w + nI 1 = _ by rw [pk_mul, nI_add, nI_add, rw10_s hw]) ?_
    refine r_istore (loc' := [(5, .int (nI (rw10 (6 * Q + w + 1)))), (6, .int (nI w)), (4, .int (nI (eP S p Q))), (0, .ref 38), (1, .int (nI p)), (2, .int kv), (3, .int 1)]) dX7_fewest_152 (by decide) rfl ?_
    refine r_aload_n dX7_fewest_154 rfl ?_
    refine r_getR dX7_fewest_155 fl_X7_43 (ly_38 hE) rfl ?_
    refine r_bipush (v := 6) dX7_fewest_158 rfl ?_
    refine r_iload dX7_fewest_160 rfl ?_
    refine r_imul dX7_fewest_162 ?_
    refine r_iload dX7_fewest_163 rfl ?_
    refine r_iadd dX7_fewest_165 ?_
    refine r_rw (y := nI (6 * eP S p Q + w)) (show nI 6 * nI (eP S p Q) + nI w = _ by rw [pk_mul, nI_add]) ?_
    refine r_ialdN dX7_fewest_166 (ly_47 hE) (by omega) (by decide) ?_
    refine r_rw (y := nI (eP S p (6 * Q + w + 1))) ((hfl.2 _ w hx hw).trans (by show _ = nI (en (gP S p) (aP S p) _); rw [en_s hw])) ?_
    refine r_istore (loc' := [(4, .int (nI (eP S p (6 * Q + w + 1)))), (5, .int (nI (rw10 (6 * Q + w + 1)))), (6, .int (nI w)), (0, .ref 38), (1, .int (nI p)), (2, .int kv), (3, .int 1)]) dX7_fewest_167 (by decide) rfl ?_
    refine r_goto (tgt := 93) dX7_fewest_169 (by decide) ?_
    refine qG.pick [1, 0, 3, 4, 5, 6] rfl ?_
    refine ih (6 * Q + w + 1) ?_ ?_ (greedy hw hD hl hlw hnw hQ)
    · rw [ln_s hw]; omega
    · show LV _ _ _ (en (gP S p) (aP S p) _)
      rw [en_s hw]; exact hlw
theorem f1R {A A1 A2 : mA} (f1 : Fr xR A A1) (f2 : FrT A1 A2) : Fr xC A A2 := (f1.mo (by decide)).tr f2.c
theorem xR38 {A A1 : mA} (f1 : Fr xC A A1) : ∀ k, 38 ≤ k → A1 k = A k := Fr.hi f1 (by decide)
set_option maxRecDepth 100000 in
set_option maxHeartbeats 1000000 in
theorem op_fewest (hE : hM E) (hW : WfS S T n z) (pv kv wv : Int32) : OpOK E (d + 6) mm_X6_fewest mm_X7_fewest [.int pv, .int kv, .int wv] S T n z := by
  have hEc := hE.c
  have hN := hW.2.2.2.2.1
  have hn := hN.1
  have h60 := hN.2.1
  by_cases hb : (∃ p, p < n ∧ pv = nI p) ∧ (∃ k, k < 41 ∧ kv = nI k) ∧ ∃ w, w < 2 ∧ wv = nI w
  · obtain ⟨⟨p, hp, rfl⟩, ⟨k, hk41, rfl⟩, ⟨w, hw, rfl⟩⟩ := hb
    have ha := aP_ok hW hp
    have hk1 : ¬ nI k = -1 := nI_nm1 (by omega)
    rcases (show w = 0 ∨ w = 1 by omega) with rfl | rfl
    · refine ⟨.int (wwP S p (Gk S p (nI k))), S, T, n, z, ⟨_, rfl⟩, hW, fun A L Ph hR hk => ?_, fun A L Ph hR hk => ?_⟩
      · skip

        refine qC.enter (by decide) (Nat.le_of_ble_eq_true rfl) ?_
        refine r_aload_n dX6_fewest_0 rfl ?_
        refine r_getR dX6_fewest_1 fl_X6_10 (ly_0 hEc) rfl ?_
        refine r_iload_n dX6_fewest_4 rfl ?_
        refine r_callV1 dX6_fewest_5 lk_X6_125 (ly_1 hEc) rfl (Nat.le_of_ble_eq_true rfl) (has_t hEc hn (hR.1.2.2.1.trans h60) hp ?_)
        refine r_if_eq (tgt := 28) dX6_fewest_8 (by decide) (fun hqz => absurd hqz (by decide)) (fun _ => ?_)
        refine r_iload_n dX6_fewest_11 rfl ?_
        refine r_bipush (v := 41) dX6_fewest_12 rfl ?_
        refine r_callS2 dX6_fewest_14 lk_X6_100 (Nat.le_of_ble_eq_true rfl) (win_t (lim := 41) rfl (by decide) hk41 ?_)
        refine r_if_eq (tgt := 28) dX6_fewest_17 (by decide) (fun hqz => absurd hqz (by decide)) (fun _ => ?_)
        refine r_iload_n dX6_fewest_20 rfl ?_
        refine r_iconst (v := 2) dX6_fewest_21 rfl ?_
        refine r_callS2 dX6_fewest_22 lk_X6_100 (Nat.le_of_ble_eq_true rfl) (win_t (j := 0) (lim := 2) rfl (by decide) (by decide) ?_)
        refine r_if_ne (tgt := 31) dX6_fewest_25 (by decide) (fun _ => ?_) (fun hqz => absurd hqz (by decide))
        refine r_aload_n dX6_fewest_31 rfl ?_
        refine r_getR dX6_fewest_32 fl_X6_45 (ly_0 hEc) rfl ?_
        refine r_aload_n dX6_fewest_35 rfl ?_
        refine r_getR dX6_fewest_36 fl_X6_38 (ly_0 hEc) rfl ?_
        refine r_aload_n dX6_fewest_39 rfl ?_
        refine r_getR dX6_fewest_40 fl_X6_10 (ly_0 hEc) rfl ?_
        refine r_iload_n dX6_fewest_43 rfl ?_
        refine r_callV3 dX6_fewest_44 lk_X6_201 (ly_6 hEc) rfl (Nat.le_of_ble_eq_true rfl) (sp_spread hEc hW hR hp (fun A1 sz ks f1 hc hrs => ?_))
        refine r_aload_n dX6_fewest_47 rfl ?_
        refine r_getR dX6_fewest_48 fl_X6_45 (ly_0 hEc) rfl ?_
        refine r_aload_n dX6_fewest_51 rfl ?_
        refine r_getR dX6_fewest_52 fl_X6_38 (ly_0 hEc) rfl ?_
        refine r_iload_n dX6_fewest_55 rfl ?_
        refine r_callV2 dX6_fewest_56 lk_X6_213 (ly_6 hEc) rfl (Nat.le_of_ble_eq_true rfl) (sp_firstR hc hrs (fun A2 j f2 hj hg hn => ?_) (fun A2 f2 hn => ?_))
        · have hlk := hrs.lk (G := Gk S p (nI k)) hj hg hn
          refine r_istore (loc' := [(4, .int (nI (eP S p (ks j)))), (0, .ref 0), (1, .int (nI p)), (2, .int (nI k)), (3, .int 0)]) dX6_fewest_59 (by decide) rfl ?_
          refine r_iload_n dX6_fewest_61 rfl ?_
          refine r_if_ne (tgt := 77) dX6_fewest_62 (by decide) (fun hqz => absurd (by decide) hqz) (fun _ => ?_)
          refine r_aload_n dX6_fewest_65 rfl ?_
          refine r_getR dX6_fewest_66 fl_X6_45 (ly_0 hEc) rfl ?_
          refine r_iload dX6_fewest_69 rfl ?_
          refine r_callV1 dX6_fewest_71 lk_X6_217 (ly_6 hEc) rfl (Nat.le_of_ble_eq_true rfl) (wto_t hEc (eP_lt hW hp (ks j)) ?_)
          first | refine r_rw (y := wwP S p (Gk S p (nI k))) (((hrs.t f2.t).1.2.dep hj (eP_lt hW hp _)).trans (wwP_t hlk).symm) ?_ | refine r_rw (y := wwP S p (Gk S p (nI k))) (wwP_f hno).1.symm ?_
          refine r_goto (tgt := 86) dX6_fewest_74 (by decide) ?_
          refine r_ireturn dX6_fewest_86 rfl rfl ?_
          exact hk _ _ (hR.fr (f1R f1 f2)) (xR38 (f1R f1 f2))
        · have hno := hrs.no (G := Gk S p (nI k)) hn
          refine r_istore (loc' := [(4, .int (-1)), (0, .ref 0), (1, .int (nI p)), (2, .int (nI k)), (3, .int 0)]) dX6_fewest_59 (by decide) rfl ?_
          refine r_iload_n dX6_fewest_61 rfl ?_
          refine r_if_ne (tgt := 77) dX6_fewest_62 (by decide) (fun hqz => absurd (by decide) hqz) (fun _ => ?_)
          refine r_aload_n dX6_fewest_65 rfl ?_
          refine r_getR dX6_fewest_66 fl_X6_45 (ly_0 hEc) rfl ?_
          refine r_iload dX6_fewest_69 rfl ?_
          refine r_callV1 dX6_fewest_71 lk_X6_217 (ly_6 hEc) rfl (Nat.le_of_ble_eq_true rfl) (wto_f hEc ?_)
          first | refine r_rw (y := wwP S p (Gk S p (nI k))) (((hrs.t f2.t).1.2.dep hj (eP_lt hW hp _)).trans (wwP_t hlk).symm) ?_ | refine r_rw (y := wwP S p (Gk S p (nI k))) (wwP_f hno).1.symm ?_
          refine r_goto (tgt := 86) dX6_fewest_74 (by decide) ?_
          refine r_ireturn dX6_fewest_86 rfl rfl ?_
          exact hk _ _ (hR.fr (f1R f1 f2)) (xR38 (f1R f1 f2))
      · skip
        refine qC.enter (by decide) (Nat.le_of_ble_eq_true rfl) ?_
        refine r_aload_n dX7_fewest_0 rfl ?_
        refine r_iload_n dX7_fewest_1 rfl ?_
        refine r_callV1 dX7_fewest_2 lk_X7_82 (ly_38 hE) rfl (Nat.le_of_ble_eq_true rfl) (isP_t hE hn (by rw [hR.1]; exact h60) hp ?_)
        refine r_if_eq (tgt := 27) dX7_fewest_5 (by decide) (fun hqz => absurd hqz (by decide)) (fun _ => ?_)
        refine r_iload_n dX7_fewest_8 rfl ?_
        refine r_iconst (v := 0) dX7_fewest_9 rfl ?_
        refine r_bipush (v := 40) dX7_fewest_10 rfl ?_
        refine r_callS3 dX7_fewest_12 lk_X7_78 (Nat.le_of_ble_eq_true rfl) (in_t (lim := 41) rfl rfl (by decide) hk41 ?_)
        refine r_if_eq (tgt := 27) dX7_fewest_15 (by decide) (fun hqz => absurd hqz (by decide)) (fun _ => ?_)
        refine r_iload_n dX7_fewest_18 rfl ?_
        refine r_iconst (v := 0) dX7_fewest_19 rfl ?_
        refine r_iconst (v := 1) dX7_fewest_20 rfl ?_
        refine r_callS3 dX7_fewest_21 lk_X7_78 (Nat.le_of_ble_eq_true rfl) (in_t (j := 0) (lim := 2) rfl rfl (by decide) (by decide) ?_)
        refine r_if_ne (tgt := 30) dX7_fewest_24 (by decide) (fun _ => ?_) (fun hqz => absurd hqz (by decide))
        refine r_aload_n dX7_fewest_30 rfl ?_
        refine r_iload_n dX7_fewest_31 rfl ?_
        refine r_callV1 dX7_fewest_32 lk_X7_239 (ly_38 hE) rfl (Nat.le_of_ble_eq_true rfl) (sp_fillM hE hW hR hp (fun A1 f1 hm hfl => ?_))
        refine r_aload_n dX7_fewest_35 rfl ?_
        refine r_iload_n dX7_fewest_36 rfl ?_
        refine r_callV1 dX7_fewest_37 lk_X7_242 (ly_38 hE) rfl (Nat.le_of_ble_eq_true rfl) (sp_fillWants hE (Gk_h hk1) hfl (fun A2 f2 hwd => ?_))
        refine r_aload_n dX7_fewest_40 rfl ?_
        refine r_iload_n dX7_fewest_41 rfl ?_
        refine r_callV1 dX7_fewest_42 lk_X7_101 (ly_38 hE) rfl (Nat.le_of_ble_eq_true rfl) (mo_an hE hW (hm.rm.fr f2 (by decide)) hp ?_)
        refine r_rw (y := nI (aP S p)) ha.2 ?_
        refine r_istore (loc' := [(4, .int (nI (aP S p))), (0, .ref 38), (1, .int (nI p)), (2, .int (nI k)), (3, .int 0)]) dX7_fewest_45 (by decide) rfl ?_
        refine r_iload_n dX7_fewest_47 rfl ?_
        refine r_if_eq (tgt := 74) dX7_fewest_48 (by decide) (fun _ => ?_) (fun hqz => absurd (by decide) hqz)
        refine r_iload_n dX7_fewest_74 rfl ?_
        refine r_if_ne (tgt := 88) dX7_fewest_75 (by decide) (fun hqz => absurd (by decide) hqz) (fun _ => ?_)
        refine r_aload_n dX7_fewest_78 rfl ?_
        refine r_getR dX7_fewest_79 fl_X7_49 (ly_38 hE) rfl ?_
        refine r_iload dX7_fewest_82 rfl ?_
        refine r_ialdN dX7_fewest_84 (ly_49 hE) (ha.1) (by decide) ?_
        refine r_rw (y := wwP S p (Gk S p (nI k))) (hwd.ww ha.1) ?_
        refine r_goto (tgt := 89) dX7_fewest_85 (by decide) ?_
        refine r_ireturn dX7_fewest_89 rfl rfl ?_
        have fm := f1.tr (FM.of f2 (by decide))
        exact hk _ _ (hR.fm fm) fm.lo
    · refine ⟨.int (rrP S p (Gk S p (nI k))), S, T, n, z, ⟨_, rfl⟩, hW, fun A L Ph hR hk => ?_, fun A L Ph hR hk => ?_⟩
      · skip
        refine qC.enter (by decide) (Nat.le_of_ble_eq_true rfl) ?_
        refine r_aload_n dX6_fewest_0 rfl ?_
        refine r_getR dX6_fewest_1 fl_X6_10 (ly_0 hEc) rfl ?_
        refine r_iload_n dX6_fewest_4 rfl ?_
        refine r_callV1 dX6_fewest_5 lk_X6_125 (ly_1 hEc) rfl (Nat.le_of_ble_eq_true rfl) (has_t hEc hn (hR.1.2.2.1.trans h60) hp ?_)
        refine r_if_eq (tgt := 28) dX6_fewest_8 (by decide) (fun hqz => absurd hqz (by decide)) (fun _ => ?_)
        refine r_iload_n dX6_fewest_11 rfl ?_
        refine r_bipush (v := 41) dX6_fewest_12 rfl ?_
        refine r_callS2 dX6_fewest_14 lk_X6_100 (Nat.le_of_ble_eq_true rfl) (win_t (lim := 41) rfl (by decide) hk41 ?_)
        refine r_if_eq (tgt := 28) dX6_fewest_17 (by decide) (fun hqz => absurd hqz (by decide)) (fun _ => ?_)
        refine r_iload_n dX6_fewest_20 rfl ?_
        refine r_iconst (v := 2) dX6_fewest_21 rfl ?_
        refine r_callS2 dX6_fewest_22 lk_X6_100 (Nat.le_of_ble_eq_true rfl) (win_t (j := 1) (lim := 2) rfl (by decide) (by decide) ?_)
        refine r_if_ne (tgt := 31) dX6_fewest_25 (by decide) (fun _ => ?_) (fun hqz => absurd hqz (by decide))
        refine r_aload_n dX6_fewest_31 rfl ?_
        refine r_getR dX6_fewest_32 fl_X6_45 (ly_0 hEc) rfl ?_
        refine r_aload_n dX6_fewest_35 rfl ?_
        refine r_getR dX6_fewest_36 fl_X6_38 (ly_0 hEc) rfl ?_
        refine r_aload_n dX6_fewest_39 rfl ?_
        refine r_getR dX6_fewest_40 fl_X6_10 (ly_0 hEc) rfl ?_
        refine r_iload_n dX6_fewest_43 rfl ?_
        refine r_callV3 dX6_fewest_44 lk_X6_201 (ly_6 hEc) rfl (Nat.le_of_ble_eq_true rfl) (sp_spread hEc hW hR hp (fun A1 sz ks f1 hc hrs => ?_))
        refine r_aload_n dX6_fewest_47 rfl ?_
        refine r_getR dX6_fewest_48 fl_X6_45 (ly_0 hEc) rfl ?_
        refine r_aload_n dX6_fewest_51 rfl ?_
        refine r_getR dX6_fewest_52 fl_X6_38 (ly_0 hEc) rfl ?_
        refine r_iload_n dX6_fewest_55 rfl ?_
        refine r_callV2 dX6_fewest_56 lk_X6_213 (ly_6 hEc) rfl (Nat.le_of_ble_eq_true rfl) (sp_firstR hc hrs (fun A2 j f2 hj hg hn => ?_) (fun A2 f2 hn => ?_))
        · have hlk := hrs.lk (G := Gk S p (nI k)) hj hg hn
          refine r_istore (loc' := [(4, .int (nI (eP S p (ks j)))), (0, .ref 0), (1, .int (nI p)), (2, .int (nI k)), (3, .int 1)]) dX6_fewest_59 (by decide) rfl ?_
          refine r_iload_n dX6_fewest_61 rfl ?_
          refine r_if_ne (tgt := 77) dX6_fewest_62 (by decide) (fun _ => ?_) (fun hqz => absurd hqz (by decide))
          refine r_aload_n dX6_fewest_77 rfl ?_
          refine r_getR dX6_fewest_78 fl_X6_45 (ly_0 hEc) rfl ?_
          refine r_iload dX6_fewest_81 rfl ?_
          refine r_callV1 dX6_fewest_83 lk_X6_220 (ly_6 hEc) rfl (Nat.le_of_ble_eq_true rfl) (sp_rowTo hEc hW hp (hrs.t f2.t) hj ?_)
          first | refine r_rw (y := rrP S p (Gk S p (nI k))) (rrP_t hlk).symm ?_ | refine r_rw (y := rrP S p (Gk S p (nI k))) (wwP_f hno).2.symm ?_
          refine r_ireturn dX6_fewest_86 rfl rfl ?_
          exact hk _ _ (hR.fr (f1R f1 f2)) (xR38 (f1R f1 f2))
        · have hno := hrs.no (G := Gk S p (nI k)) hn
          refine r_istore (loc' := [(4, .int (-1)), (0, .ref 0), (1, .int (nI p)), (2, .int (nI k)), (3, .int 1)]) dX6_fewest_59 (by decide) rfl ?_
          refine r_iload_n dX6_fewest_61 rfl ?_
          refine r_if_ne (tgt := 77) dX6_fewest_62 (by decide) (fun _ => ?_) (fun hqz => absurd hqz (by decide))
          refine r_aload_n dX6_fewest_77 rfl ?_
          refine r_getR dX6_fewest_78 fl_X6_45 (ly_0 hEc) rfl ?_
          refine r_iload dX6_fewest_81 rfl ?_
          refine r_callV1 dX6_fewest_83 lk_X6_220 (ly_6 hEc) rfl (Nat.le_of_ble_eq_true rfl) (rowTo_f hEc ?_)
          first | refine r_rw (y := rrP S p (Gk S p (nI k))) (rrP_t hlk).symm ?_ | refine r_rw (y := rrP S p (Gk S p (nI k))) (wwP_f hno).2.symm ?_
          refine r_ireturn dX6_fewest_86 rfl rfl ?_
          exact hk _ _ (hR.fr (f1R f1 f2)) (xR38 (f1R f1 f2))
      · skip
        refine qC.enter (by decide) (Nat.le_of_ble_eq_true rfl) ?_
        refine r_aload_n dX7_fewest_0 rfl ?_
        refine r_iload_n dX7_fewest_1 rfl ?_
        refine r_callV1 dX7_fewest_2 lk_X7_82 (ly_38 hE) rfl (Nat.le_of_ble_eq_true rfl) (isP_t hE hn (by rw [hR.1]; exact h60) hp ?_)
        refine r_if_eq (tgt := 27) dX7_fewest_5 (by decide) (fun hqz => absurd hqz (by decide)) (fun _ => ?_)
        refine r_iload_n dX7_fewest_8 rfl ?_
        refine r_iconst (v := 0) dX7_fewest_9 rfl ?_
        refine r_bipush (v := 40) dX7_fewest_10 rfl ?_
        refine r_callS3 dX7_fewest_12 lk_X7_78 (Nat.le_of_ble_eq_true rfl) (in_t (lim := 41) rfl rfl (by decide) hk41 ?_)
        refine r_if_eq (tgt := 27) dX7_fewest_15 (by decide) (fun hqz => absurd hqz (by decide)) (fun _ => ?_)
        refine r_iload_n dX7_fewest_18 rfl ?_
        refine r_iconst (v := 0) dX7_fewest_19 rfl ?_
        refine r_iconst (v := 1) dX7_fewest_20 rfl ?_
        refine r_callS3 dX7_fewest_21 lk_X7_78 (Nat.le_of_ble_eq_true rfl) (in_t (j := 1) (lim := 2) rfl rfl (by decide) (by decide) ?_)
        refine r_if_ne (tgt := 30) dX7_fewest_24 (by decide) (fun _ => ?_) (fun hqz => absurd hqz (by decide))
        refine r_aload_n dX7_fewest_30 rfl ?_
        refine r_iload_n dX7_fewest_31 rfl ?_
        refine r_callV1 dX7_fewest_32 lk_X7_239 (ly_38 hE) rfl (Nat.le_of_ble_eq_true rfl) (sp_fillM hE hW hR hp (fun A1 f1 hm hfl => ?_))
        refine r_aload_n dX7_fewest_35 rfl ?_
        refine r_iload_n dX7_fewest_36 rfl ?_
        refine r_callV1 dX7_fewest_37 lk_X7_242 (ly_38 hE) rfl (Nat.le_of_ble_eq_true rfl) (sp_fillWants hE (Gk_h hk1) hfl (fun A2 f2 hwd => ?_))
        refine r_aload_n dX7_fewest_40 rfl ?_
        refine r_iload_n dX7_fewest_41 rfl ?_
        refine r_callV1 dX7_fewest_42 lk_X7_101 (ly_38 hE) rfl (Nat.le_of_ble_eq_true rfl) (mo_an hE hW (hm.rm.fr f2 (by decide)) hp ?_)
        refine r_rw (y := nI (aP S p)) ha.2 ?_
        have fm := f1.tr (FM.of f2 (by decide))
        have K := hk _ L (hR.fm fm) fm.lo
        refine r_istore (loc' := [(4, .int (nI (aP S p))), (0, .ref 38), (1, .int (nI p)), (2, .int (nI k)), (3, .int 1)]) dX7_fewest_45 (by decide) rfl ?_
        refine r_iload_n dX7_fewest_47 rfl ?_
        refine r_if_eq (tgt := 74) dX7_fewest_48 (by decide) (fun hqz => absurd hqz (by decide)) (fun _ => ?_)
        refine r_aload_n dX7_fewest_51 rfl ?_
        refine r_getR dX7_fewest_52 fl_X7_49 (ly_38 hE) rfl ?_
        refine r_iload dX7_fewest_55 rfl ?_
        refine r_ialdN dX7_fewest_57 (ly_49 hE) (ha.1) (by decide) ?_
        refine r_iconst (v := (-1)) dX7_fewest_58 rfl ?_
        refine r_icmp_eq (tgt := 74) dX7_fewest_59 (by decide) (fun b59 => ?_) (fun b59 => ?_)
        · refine r_iload_n dX7_fewest_74 rfl ?_
          refine r_if_ne (tgt := 88) dX7_fewest_75 (by decide) (fun _ => ?_) (fun hqz => absurd hqz (by decide))
          refine r_iconst (v := (-1)) dX7_fewest_88 rfl ?_
          refine r_ireturn dX7_fewest_89 rfl rfl ?_
          first | (rw [hwd.rr1 ha.1 b59] at K; exact K) | (rw [hwd.rr2 ha.1 b59 b71] at K; exact K)
        · refine r_aload_n dX7_fewest_62 rfl ?_
          refine r_getR dX7_fewest_63 fl_X7_49 (ly_38 hE) rfl ?_
          refine r_iload dX7_fewest_66 rfl ?_
          refine r_ialdN dX7_fewest_68 (ly_49 hE) (ha.1) (by decide) ?_
          refine r_bipush (v := 9) dX7_fewest_69 rfl ?_
          refine r_icmp_le (tgt := 90) dX7_fewest_71 (by decide) (fun b71 => ?_) (fun b71 => ?_)
          · refine r_iconst (v := 0) dX7_fewest_90 rfl ?_
            refine r_istore (loc' := [(5, .int 0), (4, .int (nI (aP S p))), (0, .ref 38), (1, .int (nI p)), (2, .int (nI k)), (3, .int 1)]) dX7_fewest_91 (by decide) rfl ?_
            refine qG.pick [0, 1, 2, 3, 4, 5] rfl ?_
            obtain ⟨m, hm9, hl⟩ := hwd.go ha.1 b59 b71
            have K2 := fg_loop (d := d + 6) (kv := nI k) hE hW hp (hfl.fr (f2 47 (by decide)) (f2 48 (by decide))) hwd hm9 hl K m 0 (by rw [ln_0]; omega) (by rw [show eP S p 0 = aP S p from en_0]; exact hl) (fun _ _ _ => Nat.zero_le _)
            rw [rw10_0, show eP S p 0 = aP S p from en_0] at K2
            exact K2
          · refine r_iload_n dX7_fewest_74 rfl ?_
            refine r_if_ne (tgt := 88) dX7_fewest_75 (by decide) (fun _ => ?_) (fun hqz => absurd hqz (by decide))
            refine r_iconst (v := (-1)) dX7_fewest_88 rfl ?_
            refine r_ireturn dX7_fewest_89 rfl rfl ?_
            first | (rw [hwd.rr1 ha.1 b59] at K; exact K) | (rw [hwd.rr2 ha.1 b59 b71] at K; exact K)
  · refine ⟨.int (-2), S, T, n, z, ⟨_, rfl⟩, hW, fun A L Ph hR hk => ?_, fun A L Ph hR hk => ?_⟩
    · have K := hk A L hR (fun _ _ => rfl)
      refine qC.enter (by decide) (Nat.le_of_ble_eq_true rfl) ?_
      refine r_aload_n dX6_fewest_0 rfl ?_
      refine r_getR dX6_fewest_1 fl_X6_10 (ly_0 hEc) rfl ?_
      refine r_iload_n dX6_fewest_4 rfl ?_
      refine r_callV1 dX6_fewest_5 lk_X6_125 (ly_1 hEc) rfl (Nat.le_of_ble_eq_true rfl) (sp_X2_has hEc n hn (hR.1.2.2.1.trans h60) (fun p hp ep => ?_) (fun _ => ?_))
      · refine r_if_eq (tgt := 28) dX6_fewest_8 (by decide) (fun hqz => absurd hqz (by decide)) (fun _ => ?_)
        refine r_iload_n dX6_fewest_11 rfl ?_
        refine r_bipush (v := 41) dX6_fewest_12 rfl ?_
        refine r_callS2 dX6_fewest_14 lk_X6_100 (Nat.le_of_ble_eq_true rfl) (sp_X6_within 41 rfl (by decide) (fun k hk ek => ?_) (fun _ => ?_))
        · refine r_if_eq (tgt := 28) dX6_fewest_17 (by decide) (fun hqz => absurd hqz (by decide)) (fun _ => ?_)
          refine r_iload_n dX6_fewest_20 rfl ?_
          refine r_iconst (v := 2) dX6_fewest_21 rfl ?_
          refine r_callS2 dX6_fewest_22 lk_X6_100 (Nat.le_of_ble_eq_true rfl) (win_f 2 rfl (by decide) (fun y hy ey => hb ⟨⟨p, hp, ep⟩, ⟨k, hk, ek⟩, ⟨y, hy, ey⟩⟩) ?_)
          refine r_if_ne (tgt := 31) dX6_fewest_25 (by decide) (fun hqz => absurd (by decide) hqz) (fun _ => ?_)
          refine r_bipush (v := (-2)) dX6_fewest_28 rfl ?_
          refine r_ireturn dX6_fewest_30 rfl rfl ?_
          exact K
        · refine r_if_eq (tgt := 28) dX6_fewest_17 (by decide) (fun _ => ?_) (fun hqz => absurd (by decide) hqz)
          refine r_bipush (v := (-2)) dX6_fewest_28 rfl ?_
          refine r_ireturn dX6_fewest_30 rfl rfl ?_
          exact K
      · refine r_if_eq (tgt := 28) dX6_fewest_8 (by decide) (fun _ => ?_) (fun hqz => absurd (by decide) hqz)
        refine r_bipush (v := (-2)) dX6_fewest_28 rfl ?_
        refine r_ireturn dX6_fewest_30 rfl rfl ?_
        exact K
    · have K := hk A L hR (fun _ _ => rfl)
      refine qC.enter (by decide) (Nat.le_of_ble_eq_true rfl) ?_
      refine r_aload_n dX7_fewest_0 rfl ?_
      refine r_iload_n dX7_fewest_1 rfl ?_
      refine r_callV1 dX7_fewest_2 lk_X7_82 (ly_38 hE) rfl (Nat.le_of_ble_eq_true rfl) (sp_X7_isPair hE n hn (by rw [hR.1]; exact h60) (fun p hp ep => ?_) (fun _ => ?_))
      · refine r_if_eq (tgt := 27) dX7_fewest_5 (by decide) (fun hqz => absurd hqz (by decide)) (fun _ => ?_)
        refine r_iload_n dX7_fewest_8 rfl ?_
        refine r_iconst (v := 0) dX7_fewest_9 rfl ?_
        refine r_bipush (v := 40) dX7_fewest_10 rfl ?_
        refine r_callS3 dX7_fewest_12 lk_X7_78 (Nat.le_of_ble_eq_true rfl) (sp_isIn0 41 rfl rfl (by decide) (fun k hk ek => ?_) (fun _ => ?_))
        · refine r_if_eq (tgt := 27) dX7_fewest_15 (by decide) (fun hqz => absurd hqz (by decide)) (fun _ => ?_)
          refine r_iload_n dX7_fewest_18 rfl ?_
          refine r_iconst (v := 0) dX7_fewest_19 rfl ?_
          refine r_iconst (v := 1) dX7_fewest_20 rfl ?_
          refine r_callS3 dX7_fewest_21 lk_X7_78 (Nat.le_of_ble_eq_true rfl) (in_f 2 rfl rfl (by decide) (fun y hy ey => hb ⟨⟨p, hp, ep⟩, ⟨k, hk, ek⟩, ⟨y, hy, ey⟩⟩) ?_)
          refine r_if_ne (tgt := 30) dX7_fewest_24 (by decide) (fun hqz => absurd (by decide) hqz) (fun _ => ?_)
          refine r_bipush (v := (-2)) dX7_fewest_27 rfl ?_
          refine r_ireturn dX7_fewest_29 rfl rfl ?_
          exact K
        · refine r_if_eq (tgt := 27) dX7_fewest_15 (by decide) (fun _ => ?_) (fun hqz => absurd (by decide) hqz)
          refine r_bipush (v := (-2)) dX7_fewest_27 rfl ?_
          refine r_ireturn dX7_fewest_29 rfl rfl ?_
          exact K
      · refine r_if_eq (tgt := 27) dX7_fewest_5 (by decide) (fun _ => ?_) (fun hqz => absurd (by decide) hqz)
        refine r_bipush (v := (-2)) dX7_fewest_27 rfl ?_
        refine r_ireturn dX7_fewest_29 rfl rfl ?_
        exact K
set_option maxRecDepth 100000 in
set_option maxHeartbeats 1000000 in
theorem ne_loop (hE : hC E) (hW : WfS S T n z) {m : Nat} (hm : m < 40) {wv : Int32} : ∀ (k i : Nat) (A : mA), i + k = n → RC A S T n z → (∀ A', Fr xC A A' → Ph (some (.int (if wv = 0 then (nbF (fun i => wwP S i (Gk S i (nI (m + 1)))) n).1 else (nbF (fun i => wwP S i (Gk S i (nI (m + 1)))) n).2))) A' L) → qG E mm_X6_nearest (d + 5) 8 [(5, .int (nI i)), (4, .int (nbF (fun i => wwP S i (Gk S i (nI (m + 1)))) i).2), (3, .int (nbF (fun i => wwP S i (Gk S i (nI (m + 1)))) i).1), (0, .ref 0), (1, .int (nI m)), (2, .int wv)] [] A L Ph := by
  have hn := hW.2.2.2.2.1.1
  have h60 := hW.2.2.2.2.1.2.1
  intro k
  induction k with
  | zero =>
    intro i A hi hR h
    have hi : i = n := by omega
    rw [hi]
    generalize eq0 : nbF (fun i => wwP S i (Gk S i (nI (m + 1)))) n = q at *
    generalize eq2 : q.2 = ql at *
    generalize eq1 : q.1 = qb at *
    refine r_iload dX6_nearest_8 rfl ?_
    refine r_aload_n dX6_nearest_10 rfl ?_
    refine r_getR dX6_nearest_11 fl_X6_10 (ly_0 hE) rfl ?_
    refine r_getI dX6_nearest_14 fl_X6_93 (ly_1 hE) rfl ?_
    refine r_rw (y := nI n) (hR.1.2.2.1.trans h60) ?_
    refine r_icmp_ge (tgt := 91) dX6_nearest_17 (by decide) (fun _ => ?_) (fun hqz => absurd (nI_le (Nat.le_refl _) (by omega)) hqz)
    refine r_iload_n dX6_nearest_91 rfl ?_
    refine r_if_ne (tgt := 99) dX6_nearest_92 (by decide) (fun b92 => ?_) (fun b92 => ?_)
    · refine r_iload dX6_nearest_99 rfl ?_
      refine r_ireturn dX6_nearest_101 rfl rfl ?_
      have K := h A Fr.rf
      first | (rw [if_pos b92] at K; exact K) | (rw [if_neg b92] at K; exact K)
    · refine r_iload_n dX6_nearest_95 rfl ?_
      refine r_goto (tgt := 101) dX6_nearest_96 (by decide) ?_
      refine r_ireturn dX6_nearest_101 rfl rfl ?_
      have K := h A Fr.rf
      first | (rw [if_pos b92] at K; exact K) | (rw [if_neg b92] at K; exact K)
  | succ k ih =>
    intro i A hi hR h
    have hp : i < n := by omega
    have hs := ih (i + 1)
    have hq := nbF_n (fun i => wwP S i (Gk S i (nI (m + 1)))) i (by omega)
    rw [nbF] at hs
    obtain ⟨x, hx⟩ : ∃ x, wwP S i (Gk S i (nI (m + 1))) = x := ⟨_, rfl⟩
    rw [hx] at hs
    generalize eq0 : nbF (fun i => wwP S i (Gk S i (nI (m + 1)))) i = q at *
    generalize eq2 : q.2 = ql at *
    generalize eq1 : q.1 = qb at *
    refine r_iload dX6_nearest_8 rfl ?_
    refine r_aload_n dX6_nearest_10 rfl ?_
    refine r_getR dX6_nearest_11 fl_X6_10 (ly_0 hE) rfl ?_
    refine r_getI dX6_nearest_14 fl_X6_93 (ly_1 hE) rfl ?_
    refine r_rw (y := nI n) (hR.1.2.2.1.trans h60) ?_
    refine r_icmp_ge (tgt := 91) dX6_nearest_17 (by decide) (fun hqz => absurd hqz (nI_ge hp (by omega))) (fun _ => ?_)
    refine r_aload_n dX6_nearest_20 rfl ?_
    refine r_getR dX6_nearest_21 fl_X6_45 (ly_0 hE) rfl ?_
    refine r_aload_n dX6_nearest_24 rfl ?_
    refine r_getR dX6_nearest_25 fl_X6_38 (ly_0 hE) rfl ?_
    refine r_aload_n dX6_nearest_28 rfl ?_
    refine r_getR dX6_nearest_29 fl_X6_10 (ly_0 hE) rfl ?_
    refine r_iload dX6_nearest_32 rfl ?_
    refine r_callV3 dX6_nearest_34 lk_X6_201 (ly_6 hE) rfl (Nat.le_of_ble_eq_true rfl) (sp_spread hE hW hR hp (fun A1 sz ks f1 hc hrs => ?_))
    refine r_aload_n dX6_nearest_37 rfl ?_
    refine r_getR dX6_nearest_38 fl_X6_45 (ly_0 hE) rfl ?_
    refine r_aload_n dX6_nearest_41 rfl ?_
    refine r_getR dX6_nearest_42 fl_X6_45 (ly_0 hE) rfl ?_
    refine r_aload_n dX6_nearest_45 rfl ?_
    refine r_getR dX6_nearest_46 fl_X6_38 (ly_0 hE) rfl ?_
    refine r_iload_n dX6_nearest_49 rfl ?_
    refine r_iconst (v := 1) dX6_nearest_50 rfl ?_
    refine r_iadd dX6_nearest_51 ?_
    refine r_rw (y := nI (m + 1)) (nI_1 m) ?_
    refine r_callV2 dX6_nearest_52 lk_X6_213 (ly_6 hE) rfl (Nat.le_of_ble_eq_true rfl) (sp_firstR hc hrs (fun A2 j f2 hj hg hn => ?_) (fun A2 f2 hn => ?_))
    · have hlk := hrs.lk (G := Gk S i (nI (m + 1))) hj hg hn
      refine r_callV1 dX6_nearest_55 lk_X6_217 (ly_6 hE) rfl (Nat.le_of_ble_eq_true rfl) (wto_t hE (eP_lt hW hp (ks j)) ?_)
      first | refine r_rw (y := x) (((hrs.t f2.t).1.2.dep hj (eP_lt hW hp _)).trans ((wwP_t hlk).symm.trans hx)) ?_ | refine r_rw (y := x) ((wwP_f hno).1.symm.trans hx) ?_
      refine r_istore (loc' := [(6, .int x), (5, .int (nI i)), (4, .int ql), (3, .int qb), (0, .ref 0), (1, .int (nI m)), (2, .int wv)]) dX6_nearest_58 (by decide) rfl ?_
      refine r_iload dX6_nearest_60 rfl ?_
      refine r_iconst (v := (-1)) dX6_nearest_62 rfl ?_
      refine r_icmp_eq (tgt := 85) dX6_nearest_63 (by decide) (fun b63 => ?_) (fun b63 => ?_)
      · refine r_iinc (v := (nI (i + 1))) (loc' := [(5, .int (nI (i + 1))), (6, .int x), (4, .int ql), (3, .int qb), (0, .ref 0), (1, .int (nI m)), (2, .int wv)]) dX6_nearest_85 rfl ((nI_succ _).symm) (by decide) rfl ?_
        refine r_goto (tgt := 8) dX6_nearest_88 (by decide) ?_
        refine qG.pick [0, 2, 3, 4, 5, 6] rfl ?_
        have K := hs A2 (by omega) (hR.fr (f1R f1 f2)) (fun A' f => h A' ((f1R f1 f2).tr f))
        first | (rw [if_neg (nb1 b63), eq2, eq1] at K; exact K) | (rw [if_pos (nb2 b63 (hq.mp b68))] at K; exact K) | (rw [if_neg (nb3 (mt hq.mpr b68) b75), eq2, eq1] at K; exact K) | (rw [if_pos (nb4 b63 b75)] at K; exact K)
      · refine r_iload_n dX6_nearest_66 rfl ?_
        refine r_iconst (v := (-1)) dX6_nearest_67 rfl ?_
        refine r_icmp_eq (tgt := 78) dX6_nearest_68 (by decide) (fun b68 => ?_) (fun b68 => ?_)
        · refine r_iload dX6_nearest_78 rfl ?_
          refine r_istore_n (loc' := [(3, .int (nI i)), (6, .int x), (5, .int (nI i)), (4, .int ql), (0, .ref 0), (1, .int (nI m)), (2, .int wv)]) dX6_nearest_80 (by decide) rfl ?_
          refine r_iload dX6_nearest_81 rfl ?_
          refine r_istore (loc' := [(4, .int x), (3, .int (nI i)), (6, .int x), (5, .int (nI i)), (0, .ref 0), (1, .int (nI m)), (2, .int wv)]) dX6_nearest_83 (by decide) rfl ?_
          refine r_iinc (v := (nI (i + 1))) (loc' := [(5, .int (nI (i + 1))), (4, .int x), (3, .int (nI i)), (6, .int x), (0, .ref 0), (1, .int (nI m)), (2, .int wv)]) dX6_nearest_85 rfl ((nI_succ _).symm) (by decide) rfl ?_
          refine r_goto (tgt := 8) dX6_nearest_88 (by decide) ?_
          refine qG.pick [0, 1, 2, 4, 5, 6] rfl ?_
          have K := hs A2 (by omega) (hR.fr (f1R f1 f2)) (fun A' f => h A' ((f1R f1 f2).tr f))
          first | (rw [if_neg (nb1 b63), eq2, eq1] at K; exact K) | (rw [if_pos (nb2 b63 (hq.mp b68))] at K; exact K) | (rw [if_neg (nb3 (mt hq.mpr b68) b75), eq2, eq1] at K; exact K) | (rw [if_pos (nb4 b63 b75)] at K; exact K)
        · refine r_iload dX6_nearest_71 rfl ?_
          refine r_iload dX6_nearest_73 rfl ?_
          refine r_icmp_ge (tgt := 85) dX6_nearest_75 (by decide) (fun b75 => ?_) (fun b75 => ?_)
          · refine r_iinc (v := (nI (i + 1))) (loc' := [(5, .int (nI (i + 1))), (6, .int x), (4, .int ql), (3, .int qb), (0, .ref 0), (1, .int (nI m)), (2, .int wv)]) dX6_nearest_85 rfl ((nI_succ _).symm) (by decide) rfl ?_
            refine r_goto (tgt := 8) dX6_nearest_88 (by decide) ?_
            refine qG.pick [0, 2, 3, 4, 5, 6] rfl ?_
            have K := hs A2 (by omega) (hR.fr (f1R f1 f2)) (fun A' f => h A' ((f1R f1 f2).tr f))
            first | (rw [if_neg (nb1 b63), eq2, eq1] at K; exact K) | (rw [if_pos (nb2 b63 (hq.mp b68))] at K; exact K) | (rw [if_neg (nb3 (mt hq.mpr b68) b75), eq2, eq1] at K; exact K) | (rw [if_pos (nb4 b63 b75)] at K; exact K)
          · refine r_iload dX6_nearest_78 rfl ?_
            refine r_istore_n (loc' := [(3, .int (nI i)), (6, .int x), (5, .int (nI i)), (4, .int ql), (0, .ref 0), (1, .int (nI m)), (2, .int wv)]) dX6_nearest_80 (by decide) rfl ?_
            refine r_iload dX6_nearest_81 rfl ?_
            refine r_istore (loc' := [(4, .int x), (3, .int (nI i)), (6, .int x), (5, .int (nI i)), (0, .ref 0), (1, .int (nI m)), (2, .int wv)]) dX6_nearest_83 (by decide) rfl ?_
            refine r_iinc (v := (nI (i + 1))) (loc' := [(5, .int (nI (i + 1))), (4, .int x), (3, .int (nI i)), (6, .int x), (0, .ref 0), (1, .int (nI m)), (2, .int wv)]) dX6_nearest_85 rfl ((nI_succ _).symm) (by decide) rfl ?_
            refine r_goto (tgt := 8) dX6_nearest_88 (by decide) ?_
            refine qG.pick [0, 1, 2, 4, 5, 6] rfl ?_
            have K := hs A2 (by omega) (hR.fr (f1R f1 f2)) (fun A' f => h A' ((f1R f1 f2).tr f))
            first | (rw [if_neg (nb1 b63), eq2, eq1] at K; exact K) | (rw [if_pos (nb2 b63 (hq.mp b68))] at K; exact K) | (rw [if_neg (nb3 (mt hq.mpr b68) b75), eq2, eq1] at K; exact K) | (rw [if_pos (nb4 b63 b75)] at K; exact K)
    · have hno := hrs.no (G := Gk S i (nI (m + 1))) hn
      refine r_callV1 dX6_nearest_55 lk_X6_217 (ly_6 hE) rfl (Nat.le_of_ble_eq_true rfl) (wto_f hE ?_)
      first | refine r_rw (y := x) (((hrs.t f2.t).1.2.dep hj (eP_lt hW hp _)).trans ((wwP_t hlk).symm.trans hx)) ?_ | refine r_rw (y := x) ((wwP_f hno).1.symm.trans hx) ?_
      refine r_istore (loc' := [(6, .int x), (5, .int (nI i)), (4, .int ql), (3, .int qb), (0, .ref 0), (1, .int (nI m)), (2, .int wv)]) dX6_nearest_58 (by decide) rfl ?_
      refine r_iload dX6_nearest_60 rfl ?_
      refine r_iconst (v := (-1)) dX6_nearest_62 rfl ?_
      refine r_icmp_eq (tgt := 85) dX6_nearest_63 (by decide) (fun b63 => ?_) (fun b63 => ?_)
      · refine r_iinc (v := (nI (i + 1))) (loc' := [(5, .int (nI (i + 1))), (6, .int x), (4, .int ql), (3, .int qb), (0, .ref 0), (1, .int (nI m)), (2, .int wv)]) dX6_nearest_85 rfl ((nI_succ _).symm) (by decide) rfl ?_
        refine r_goto (tgt := 8) dX6_nearest_88 (by decide) ?_
        refine qG.pick [0, 2, 3, 4, 5, 6] rfl ?_
        have K := hs A2 (by omega) (hR.fr (f1R f1 f2)) (fun A' f => h A' ((f1R f1 f2).tr f))
        first | (rw [if_neg (nb1 b63), eq2, eq1] at K; exact K) | (rw [if_pos (nb2 b63 (hq.mp b68))] at K; exact K) | (rw [if_neg (nb3 (mt hq.mpr b68) b75), eq2, eq1] at K; exact K) | (rw [if_pos (nb4 b63 b75)] at K; exact K)
      · refine r_iload_n dX6_nearest_66 rfl ?_
        refine r_iconst (v := (-1)) dX6_nearest_67 rfl ?_
        refine r_icmp_eq (tgt := 78) dX6_nearest_68 (by decide) (fun b68 => ?_) (fun b68 => ?_)
        · refine r_iload dX6_nearest_78 rfl ?_
          refine r_istore_n (loc' := [(3, .int (nI i)), (6, .int x), (5, .int (nI i)), (4, .int ql), (0, .ref 0), (1, .int (nI m)), (2, .int wv)]) dX6_nearest_80 (by decide) rfl ?_
          refine r_iload dX6_nearest_81 rfl ?_
          refine r_istore (loc' := [(4, .int x), (3, .int (nI i)), (6, .int x), (5, .int (nI i)), (0, .ref 0), (1, .int (nI m)), (2, .int wv)]) dX6_nearest_83 (by decide) rfl ?_
          refine r_iinc (v := (nI (i + 1))) (loc' := [(5, .int (nI (i + 1))), (4, .int x), (3, .int (nI i)), (6, .int x), (0, .ref 0), (1, .int (nI m)), (2, .int wv)]) dX6_nearest_85 rfl ((nI_succ _).symm) (by decide) rfl ?_
          refine r_goto (tgt := 8) dX6_nearest_88 (by decide) ?_
          refine qG.pick [0, 1, 2, 4, 5, 6] rfl ?_
          have K := hs A2 (by omega) (hR.fr (f1R f1 f2)) (fun A' f => h A' ((f1R f1 f2).tr f))
          first | (rw [if_neg (nb1 b63), eq2, eq1] at K; exact K) | (rw [if_pos (nb2 b63 (hq.mp b68))] at K; exact K) | (rw [if_neg (nb3 (mt hq.mpr b68) b75), eq2, eq1] at K; exact K) | (rw [if_pos (nb4 b63 b75)] at K; exact K)
        · refine r_iload dX6_nearest_71 rfl ?_
          refine r_iload dX6_nearest_73 rfl ?_
          refine r_icmp_ge (tgt := 85) dX6_nearest_75 (by decide) (fun b75 => ?_) (fun b75 => ?_)
          · refine r_iinc (v := (nI (i + 1))) (loc' := [(5, .int (nI (i + 1))), (6, .int x), (4, .int ql), (3, .int qb), (0, .ref 0), (1, .int (nI m)), (2, .int wv)]) dX6_nearest_85 rfl ((nI_succ _).symm) (by decide) rfl ?_
            refine r_goto (tgt := 8) dX6_nearest_88 (by decide) ?_
            refine qG.pick [0, 2, 3, 4, 5, 6] rfl ?_
            have K := hs A2 (by omega) (hR.fr (f1R f1 f2)) (fun A' f => h A' ((f1R f1 f2).tr f))
            first | (rw [if_neg (nb1 b63), eq2, eq1] at K; exact K) | (rw [if_pos (nb2 b63 (hq.mp b68))] at K; exact K) | (rw [if_neg (nb3 (mt hq.mpr b68) b75), eq2, eq1] at K; exact K) | (rw [if_pos (nb4 b63 b75)] at K; exact K)
          · refine r_iload dX6_nearest_78 rfl ?_
            refine r_istore_n (loc' := [(3, .int (nI i)), (6, .int x), (5, .int (nI i)), (4, .int ql), (0, .ref 0), (1, .int (nI m)), (2, .int wv)]) dX6_nearest_80 (by decide) rfl ?_
            refine r_iload dX6_nearest_81 rfl ?_
            refine r_istore (loc' := [(4, .int x), (3, .int (nI i)), (6, .int x), (5, .int (nI i)), (0, .ref 0), (1, .int (nI m)), (2, .int wv)]) dX6_nearest_83 (by decide) rfl ?_
            refine r_iinc (v := (nI (i + 1))) (loc' := [(5, .int (nI (i + 1))), (4, .int x), (3, .int (nI i)), (6, .int x), (0, .ref 0), (1, .int (nI m)), (2, .int wv)]) dX6_nearest_85 rfl ((nI_succ _).symm) (by decide) rfl ?_
            refine r_goto (tgt := 8) dX6_nearest_88 (by decide) ?_
            refine qG.pick [0, 1, 2, 4, 5, 6] rfl ?_
            have K := hs A2 (by omega) (hR.fr (f1R f1 f2)) (fun A' f => h A' ((f1R f1 f2).tr f))
            first | (rw [if_neg (nb1 b63), eq2, eq1] at K; exact K) | (rw [if_pos (nb2 b63 (hq.mp b68))] at K; exact K) | (rw [if_neg (nb3 (mt hq.mpr b68) b75), eq2, eq1] at K; exact K) | (rw [if_pos (nb4 b63 b75)] at K; exact K)
set_option maxRecDepth 100000 in
set_option maxHeartbeats 1000000 in
theorem wb_loop (hE : hM E) (hW : WfS S T n z) {m : Nat} (hm : m < 40) {wv : Int32} : ∀ (k i : Nat) (A : mA), i + k = n → RM A S T → (∀ A', FM A A' → Ph (some (.int (if wv = 0 then (nbF (fun i => wwP S i (Gk S i (nI (m + 1)))) n).1 else (nbF (fun i => wwP S i (Gk S i (nI (m + 1)))) n).2))) A' L) → qG E mm_X7_whomBy (d + 6) 8 [(5, .int (nI i)), (4, .int (nbF (fun i => wwP S i (Gk S i (nI (m + 1)))) i).2), (3, .int (nbF (fun i => wwP S i (Gk S i (nI (m + 1)))) i).1), (0, .ref 38), (1, .int (nI m)), (2, .int wv)] [] A L Ph := by
  have hn := hW.2.2.2.2.1.1
  have h60 := hW.2.2.2.2.1.2.1
  intro k
  induction k with
  | zero =>
    intro i A hi hR h
    have hi : i = n := by omega
    rw [hi]
    generalize eq0 : nbF (fun i => wwP S i (Gk S i (nI (m + 1)))) n = q at *
    generalize eq2 : q.2 = ql at *
    generalize eq1 : q.1 = qb at *
    refine r_iload dX7_whomBy_8 rfl ?_
    refine r_aload_n dX7_whomBy_10 rfl ?_
    refine r_callV0 dX7_whomBy_11 lk_X7_94 (ly_38 hE) rfl (Nat.le_of_ble_eq_true rfl) (sp_X7_many hE ?_)
    refine r_rw (y := nI n) (by rw [hR.1]; exact h60) ?_
    refine r_icmp_ge (tgt := 75) dX7_whomBy_14 (by decide) (fun _ => ?_) (fun hqz => absurd (nI_le (Nat.le_refl _) (by omega)) hqz)
    refine r_iload_n dX7_whomBy_75 rfl ?_
    refine r_if_ne (tgt := 83) dX7_whomBy_76 (by decide) (fun b76 => ?_) (fun b76 => ?_)
    · refine r_iload dX7_whomBy_83 rfl ?_
      refine r_ireturn dX7_whomBy_85 rfl rfl ?_
      have K := h A FM.rf
      first | (rw [if_pos b76] at K; exact K) | (rw [if_neg b76] at K; exact K)
    · refine r_iload_n dX7_whomBy_79 rfl ?_
      refine r_goto (tgt := 85) dX7_whomBy_80 (by decide) ?_
      refine r_ireturn dX7_whomBy_85 rfl rfl ?_
      have K := h A FM.rf
      first | (rw [if_pos b76] at K; exact K) | (rw [if_neg b76] at K; exact K)
  | succ k ih =>
    intro i A hi hR h
    have hp : i < n := by omega
    have ha := aP_ok hW hp
    have hs := ih (i + 1)
    rw [nbF] at hs
    obtain ⟨x, hx⟩ : ∃ x, wwP S i (Gk S i (nI (m + 1))) = x := ⟨_, rfl⟩
    rw [hx] at hs
    have hk1 : ¬ nI (m + 1) = -1 := nI_nm1 (by omega)
    generalize eq0 : nbF (fun i => wwP S i (Gk S i (nI (m + 1)))) i = q at *
    generalize eq2 : q.2 = ql at *
    generalize eq1 : q.1 = qb at *
    refine r_iload dX7_whomBy_8 rfl ?_
    refine r_aload_n dX7_whomBy_10 rfl ?_
    refine r_callV0 dX7_whomBy_11 lk_X7_94 (ly_38 hE) rfl (Nat.le_of_ble_eq_true rfl) (sp_X7_many hE ?_)
    refine r_rw (y := nI n) (by rw [hR.1]; exact h60) ?_
    refine r_icmp_ge (tgt := 75) dX7_whomBy_14 (by decide) (fun hqz => absurd hqz (nI_ge hp (by omega))) (fun _ => ?_)
    refine r_aload_n dX7_whomBy_17 rfl ?_
    refine r_iload dX7_whomBy_18 rfl ?_
    refine r_callV1 dX7_whomBy_20 lk_X7_239 (ly_38 hE) rfl (Nat.le_of_ble_eq_true rfl) (sp_fillM hE hW hR hp (fun A1 f1 hm1 hfl => ?_))
    refine r_aload_n dX7_whomBy_23 rfl ?_
    refine r_iload_n dX7_whomBy_24 rfl ?_
    refine r_iconst (v := 1) dX7_whomBy_25 rfl ?_
    refine r_iadd dX7_whomBy_26 ?_
    refine r_rw (y := nI (m + 1)) (nI_1 m) ?_
    refine r_callV1 dX7_whomBy_27 lk_X7_242 (ly_38 hE) rfl (Nat.le_of_ble_eq_true rfl) (sp_fillWants hE (Gk_h hk1) hfl (fun A2 f2 hwd => ?_))
    refine r_aload_n dX7_whomBy_30 rfl ?_
    refine r_getR dX7_whomBy_31 fl_X7_49 (ly_38 hE) rfl ?_
    refine r_aload_n dX7_whomBy_34 rfl ?_
    refine r_iload dX7_whomBy_35 rfl ?_
    refine r_callV1 dX7_whomBy_37 lk_X7_101 (ly_38 hE) rfl (Nat.le_of_ble_eq_true rfl) (mo_an hE hW (hm1.rm.fr f2 (by decide)) hp ?_)
    refine r_rw (y := nI (aP S i)) ha.2 ?_
    refine r_ialdN dX7_whomBy_40 (ly_49 hE) (ha.1) (by decide) ?_
    refine r_rw (y := x) ((hwd.ww ha.1).trans hx) ?_
    refine r_istore (loc' := [(6, .int x), (5, .int (nI i)), (4, .int ql), (3, .int qb), (0, .ref 38), (1, .int (nI m)), (2, .int wv)]) dX7_whomBy_41 (by decide) rfl ?_
    refine r_iload dX7_whomBy_43 rfl ?_
    refine r_iconst (v := (-1)) dX7_whomBy_45 rfl ?_
    refine r_icmp_eq (tgt := 69) dX7_whomBy_46 (by decide) (fun b46 => ?_) (fun b46 => ?_)
    · refine r_iinc (v := (nI (i + 1))) (loc' := [(5, .int (nI (i + 1))), (6, .int x), (4, .int ql), (3, .int qb), (0, .ref 38), (1, .int (nI m)), (2, .int wv)]) dX7_whomBy_69 rfl ((nI_succ _).symm) (by decide) rfl ?_
      refine r_goto (tgt := 8) dX7_whomBy_72 (by decide) ?_
      refine qG.pick [0, 2, 3, 4, 5, 6] rfl ?_
      have fm := f1.tr (FM.of f2 (by decide))
      have K := hs A2 (by omega) (hR.fm fm) (fun A' f => h A' (fm.tr f))
      first | (rw [if_neg (nb1 b46), eq2, eq1] at K; exact K) | (rw [if_pos (nb2 b46 b52)] at K; exact K) | (rw [if_neg (nb3 b52 b59), eq2, eq1] at K; exact K) | (rw [if_pos (nb4 b46 b59)] at K; exact K)
    · refine r_iload dX7_whomBy_49 rfl ?_
      refine r_iconst (v := (-1)) dX7_whomBy_51 rfl ?_
      refine r_icmp_eq (tgt := 62) dX7_whomBy_52 (by decide) (fun b52 => ?_) (fun b52 => ?_)
      · refine r_iload dX7_whomBy_62 rfl ?_
        refine r_istore_n (loc' := [(3, .int (nI i)), (6, .int x), (5, .int (nI i)), (4, .int ql), (0, .ref 38), (1, .int (nI m)), (2, .int wv)]) dX7_whomBy_64 (by decide) rfl ?_
        refine r_iload dX7_whomBy_65 rfl ?_
        refine r_istore (loc' := [(4, .int x), (3, .int (nI i)), (6, .int x), (5, .int (nI i)), (0, .ref 38), (1, .int (nI m)), (2, .int wv)]) dX7_whomBy_67 (by decide) rfl ?_
        refine r_iinc (v := (nI (i + 1))) (loc' := [(5, .int (nI (i + 1))), (4, .int x), (3, .int (nI i)), (6, .int x), (0, .ref 38), (1, .int (nI m)), (2, .int wv)]) dX7_whomBy_69 rfl ((nI_succ _).symm) (by decide) rfl ?_
        refine r_goto (tgt := 8) dX7_whomBy_72 (by decide) ?_
        refine qG.pick [0, 1, 2, 4, 5, 6] rfl ?_
        have fm := f1.tr (FM.of f2 (by decide))
        have K := hs A2 (by omega) (hR.fm fm) (fun A' f => h A' (fm.tr f))
        first | (rw [if_neg (nb1 b46), eq2, eq1] at K; exact K) | (rw [if_pos (nb2 b46 b52)] at K; exact K) | (rw [if_neg (nb3 b52 b59), eq2, eq1] at K; exact K) | (rw [if_pos (nb4 b46 b59)] at K; exact K)
      · refine r_iload dX7_whomBy_55 rfl ?_
        refine r_iload dX7_whomBy_57 rfl ?_
        refine r_icmp_ge (tgt := 69) dX7_whomBy_59 (by decide) (fun b59 => ?_) (fun b59 => ?_)
        · refine r_iinc (v := (nI (i + 1))) (loc' := [(5, .int (nI (i + 1))), (6, .int x), (4, .int ql), (3, .int qb), (0, .ref 38), (1, .int (nI m)), (2, .int wv)]) dX7_whomBy_69 rfl ((nI_succ _).symm) (by decide) rfl ?_
          refine r_goto (tgt := 8) dX7_whomBy_72 (by decide) ?_
          refine qG.pick [0, 2, 3, 4, 5, 6] rfl ?_
          have fm := f1.tr (FM.of f2 (by decide))
          have K := hs A2 (by omega) (hR.fm fm) (fun A' f => h A' (fm.tr f))
          first | (rw [if_neg (nb1 b46), eq2, eq1] at K; exact K) | (rw [if_pos (nb2 b46 b52)] at K; exact K) | (rw [if_neg (nb3 b52 b59), eq2, eq1] at K; exact K) | (rw [if_pos (nb4 b46 b59)] at K; exact K)
        · refine r_iload dX7_whomBy_62 rfl ?_
          refine r_istore_n (loc' := [(3, .int (nI i)), (6, .int x), (5, .int (nI i)), (4, .int ql), (0, .ref 38), (1, .int (nI m)), (2, .int wv)]) dX7_whomBy_64 (by decide) rfl ?_
          refine r_iload dX7_whomBy_65 rfl ?_
          refine r_istore (loc' := [(4, .int x), (3, .int (nI i)), (6, .int x), (5, .int (nI i)), (0, .ref 38), (1, .int (nI m)), (2, .int wv)]) dX7_whomBy_67 (by decide) rfl ?_
          refine r_iinc (v := (nI (i + 1))) (loc' := [(5, .int (nI (i + 1))), (4, .int x), (3, .int (nI i)), (6, .int x), (0, .ref 38), (1, .int (nI m)), (2, .int wv)]) dX7_whomBy_69 rfl ((nI_succ _).symm) (by decide) rfl ?_
          refine r_goto (tgt := 8) dX7_whomBy_72 (by decide) ?_
          refine qG.pick [0, 1, 2, 4, 5, 6] rfl ?_
          have fm := f1.tr (FM.of f2 (by decide))
          have K := hs A2 (by omega) (hR.fm fm) (fun A' f => h A' (fm.tr f))
          first | (rw [if_neg (nb1 b46), eq2, eq1] at K; exact K) | (rw [if_pos (nb2 b46 b52)] at K; exact K) | (rw [if_neg (nb3 b52 b59), eq2, eq1] at K; exact K) | (rw [if_pos (nb4 b46 b59)] at K; exact K)
set_option maxRecDepth 100000 in
set_option maxHeartbeats 1000000 in
theorem sp_nearest (hE : hC E) (hW : WfS S T n z) {m : Nat} (hm : m < 40) {wv : Int32} (hR : RC A S T n z) (h : ∀ A', Fr xC A A' → Ph (some (.int (if wv = 0 then (nbF (fun i => wwP S i (Gk S i (nI (m + 1)))) n).1 else (nbF (fun i => wwP S i (Gk S i (nI (m + 1)))) n).2))) A' L) : qC E mm_X6_nearest (d + 5) [.ref 0, .int (nI m), .int wv] A L Ph := by
  refine qC.enter (by decide) (Nat.le_of_ble_eq_true rfl) ?_
  refine r_iconst (v := (-1)) dX6_nearest_0 rfl ?_
  refine r_istore_n (loc' := [(3, .int (-1)), (0, .ref 0), (1, .int (nI m)), (2, .int wv)]) dX6_nearest_1 (by decide) rfl ?_
  refine r_iconst (v := (-1)) dX6_nearest_2 rfl ?_
  refine r_istore (loc' := [(4, .int (-1)), (3, .int (-1)), (0, .ref 0), (1, .int (nI m)), (2, .int wv)]) dX6_nearest_3 (by decide) rfl ?_
  refine r_iconst (v := 0) dX6_nearest_5 rfl ?_
  refine r_istore (loc' := [(5, .int 0), (4, .int (-1)), (3, .int (-1)), (0, .ref 0), (1, .int (nI m)), (2, .int wv)]) dX6_nearest_6 (by decide) rfl ?_
  refine qG.pick [0, 1, 2, 3, 4, 5] rfl ?_
  exact ne_loop hE hW hm n 0 A (by omega) hR h
set_option maxRecDepth 100000 in
set_option maxHeartbeats 1000000 in
theorem sp_whomBy (hE : hM E) (hW : WfS S T n z) {m : Nat} (hm : m < 40) {wv : Int32} (hR : RM A S T) (h : ∀ A', FM A A' → Ph (some (.int (if wv = 0 then (nbF (fun i => wwP S i (Gk S i (nI (m + 1)))) n).1 else (nbF (fun i => wwP S i (Gk S i (nI (m + 1)))) n).2))) A' L) : qC E mm_X7_whomBy (d + 6) [.ref 38, .int (nI m), .int wv] A L Ph := by
  refine qC.enter (by decide) (Nat.le_of_ble_eq_true rfl) ?_
  refine r_iconst (v := (-1)) dX7_whomBy_0 rfl ?_
  refine r_istore_n (loc' := [(3, .int (-1)), (0, .ref 38), (1, .int (nI m)), (2, .int wv)]) dX7_whomBy_1 (by decide) rfl ?_
  refine r_iconst (v := (-1)) dX7_whomBy_2 rfl ?_
  refine r_istore (loc' := [(4, .int (-1)), (3, .int (-1)), (0, .ref 38), (1, .int (nI m)), (2, .int wv)]) dX7_whomBy_3 (by decide) rfl ?_
  refine r_iconst (v := 0) dX7_whomBy_5 rfl ?_
  refine r_istore (loc' := [(5, .int 0), (4, .int (-1)), (3, .int (-1)), (0, .ref 38), (1, .int (nI m)), (2, .int wv)]) dX7_whomBy_6 (by decide) rfl ?_
  refine qG.pick [0, 1, 2, 3, 4, 5] rfl ?_
  exact wb_loop hE hW hm n 0 A (by omega) hR h
set_option maxRecDepth 100000 in
set_option maxHeartbeats 1000000 in
theorem op_whom (hE : hM E) (hW : WfS S T n z) (mv wv : Int32) : OpOK E (d + 7) mm_X6_whom mm_X7_whom [.int mv, .int wv] S T n z := by
  have hEc := hE.c
  have hN := hW.2.2.2.2.1
  have hn := hN.1
  have h60 := hN.2.1
  by_cases hb : (∃ m, m < 40 ∧ mv = nI m) ∧ ∃ w, w < 2 ∧ wv = nI w
  · obtain ⟨⟨m, hm, rfl⟩, ⟨w, hw, rfl⟩⟩ := hb
    refine ⟨.int (if nI w = 0 then (nbF (fun i => wwP S i (Gk S i (nI (m + 1)))) n).1 else (nbF (fun i => wwP S i (Gk S i (nI (m + 1)))) n).2), S, T, n, z, ⟨_, rfl⟩, hW, fun A L Ph hR hk => ?_, fun A L Ph hR hk => ?_⟩
    · skip
      refine qC.enter (by decide) (Nat.le_of_ble_eq_true rfl) ?_
      refine r_iload_n dX6_whom_0 rfl ?_
      refine r_bipush (v := 40) dX6_whom_1 rfl ?_
      refine r_callS2 dX6_whom_3 lk_X6_100 (Nat.le_of_ble_eq_true rfl) (win_t (lim := 40) rfl (by decide) hm ?_)
      refine r_if_eq (tgt := 17) dX6_whom_6 (by decide) (fun hqz => absurd hqz (by decide)) (fun _ => ?_)
      refine r_iload_n dX6_whom_9 rfl ?_
      refine r_iconst (v := 2) dX6_whom_10 rfl ?_
      refine r_callS2 dX6_whom_11 lk_X6_100 (Nat.le_of_ble_eq_true rfl) (win_t (lim := 2) rfl (by decide) hw ?_)
      refine r_if_ne (tgt := 20) dX6_whom_14 (by decide) (fun _ => ?_) (fun hqz => absurd hqz (by decide))
      refine r_aload_n dX6_whom_20 rfl ?_
      refine r_iload_n dX6_whom_21 rfl ?_
      refine r_iload_n dX6_whom_22 rfl ?_
      refine r_callV2 dX6_whom_23 lk_X6_188 (ly_0 hEc) rfl (Nat.le_of_ble_eq_true rfl) (sp_nearest hEc hW hm hR (fun A1 f1 => ?_))
      refine r_ireturn dX6_whom_26 rfl rfl ?_
      exact hk A1 _ (hR.fr f1) (xR38 f1)
    · skip
      refine qC.enter (by decide) (Nat.le_of_ble_eq_true rfl) ?_
      refine r_iload_n dX7_whom_0 rfl ?_
      refine r_iconst (v := 0) dX7_whom_1 rfl ?_
      refine r_bipush (v := 39) dX7_whom_2 rfl ?_
      refine r_callS3 dX7_whom_4 lk_X7_78 (Nat.le_of_ble_eq_true rfl) (in_t (lim := 40) rfl rfl (by decide) hm ?_)
      refine r_if_eq (tgt := 28) dX7_whom_7 (by decide) (fun hqz => absurd hqz (by decide)) (fun _ => ?_)
      refine r_iload_n dX7_whom_10 rfl ?_
      refine r_iconst (v := 0) dX7_whom_11 rfl ?_
      refine r_iconst (v := 1) dX7_whom_12 rfl ?_
      refine r_callS3 dX7_whom_13 lk_X7_78 (Nat.le_of_ble_eq_true rfl) (in_t (lim := 2) rfl rfl (by decide) hw ?_)
      refine r_if_eq (tgt := 28) dX7_whom_16 (by decide) (fun hqz => absurd hqz (by decide)) (fun _ => ?_)
      refine r_aload_n dX7_whom_19 rfl ?_
      refine r_iload_n dX7_whom_20 rfl ?_
      refine r_iload_n dX7_whom_21 rfl ?_
      refine r_callV2 dX7_whom_22 lk_X7_227 (ly_38 hE) rfl (Nat.le_of_ble_eq_true rfl) (sp_whomBy hE hW hm hR (fun A1 f1 => ?_))
      refine r_goto (tgt := 30) dX7_whom_25 (by decide) ?_
      refine r_ireturn dX7_whom_30 rfl rfl ?_
      exact hk A1 _ (hR.fm f1) f1.lo
  · refine ⟨.int (-2), S, T, n, z, ⟨_, rfl⟩, hW, fun A L Ph hR hk => ?_, fun A L Ph hR hk => ?_⟩
    · have K := hk A L hR (fun _ _ => rfl)
      refine qC.enter (by decide) (Nat.le_of_ble_eq_true rfl) ?_
      refine r_iload_n dX6_whom_0 rfl ?_
      refine r_bipush (v := 40) dX6_whom_1 rfl ?_
      refine r_callS2 dX6_whom_3 lk_X6_100 (Nat.le_of_ble_eq_true rfl) (sp_X6_within 40 rfl (by decide) (fun m hm em => ?_) (fun _ => ?_))
      · refine r_if_eq (tgt := 17) dX6_whom_6 (by decide) (fun hqz => absurd hqz (by decide)) (fun _ => ?_)
        refine r_iload_n dX6_whom_9 rfl ?_
        refine r_iconst (v := 2) dX6_whom_10 rfl ?_
        refine r_callS2 dX6_whom_11 lk_X6_100 (Nat.le_of_ble_eq_true rfl) (win_f 2 rfl (by decide) (fun y hy ey => hb ⟨⟨m, hm, em⟩, ⟨y, hy, ey⟩⟩) ?_)
        refine r_if_ne (tgt := 20) dX6_whom_14 (by decide) (fun hqz => absurd (by decide) hqz) (fun _ => ?_)
        refine r_bipush (v := (-2)) dX6_whom_17 rfl ?_
        refine r_ireturn dX6_whom_19 rfl rfl ?_
        exact K
      · refine r_if_eq (tgt := 17) dX6_whom_6 (by decide) (fun _ => ?_) (fun hqz => absurd (by decide) hqz)
        refine r_bipush (v := (-2)) dX6_whom_17 rfl ?_
        refine r_ireturn dX6_whom_19 rfl rfl ?_
        exact K
    · have K := hk A L hR (fun _ _ => rfl)
      refine qC.enter (by decide) (Nat.le_of_ble_eq_true rfl) ?_
      refine r_iload_n dX7_whom_0 rfl ?_
      refine r_iconst (v := 0) dX7_whom_1 rfl ?_
      refine r_bipush (v := 39) dX7_whom_2 rfl ?_
      refine r_callS3 dX7_whom_4 lk_X7_78 (Nat.le_of_ble_eq_true rfl) (sp_isIn0 40 rfl rfl (by decide) (fun m hm em => ?_) (fun _ => ?_))
      · refine r_if_eq (tgt := 28) dX7_whom_7 (by decide) (fun hqz => absurd hqz (by decide)) (fun _ => ?_)
        refine r_iload_n dX7_whom_10 rfl ?_
        refine r_iconst (v := 0) dX7_whom_11 rfl ?_
        refine r_iconst (v := 1) dX7_whom_12 rfl ?_
        refine r_callS3 dX7_whom_13 lk_X7_78 (Nat.le_of_ble_eq_true rfl) (in_f 2 rfl rfl (by decide) (fun y hy ey => hb ⟨⟨m, hm, em⟩, ⟨y, hy, ey⟩⟩) ?_)
        refine r_if_eq (tgt := 28) dX7_whom_16 (by decide) (fun _ => ?_) (fun hqz => absurd (by decide) hqz)
        refine r_bipush (v := (-2)) dX7_whom_28 rfl ?_
        refine r_ireturn dX7_whom_30 rfl rfl ?_
        exact K
      · refine r_if_eq (tgt := 28) dX7_whom_7 (by decide) (fun _ => ?_) (fun hqz => absurd (by decide) hqz)
        refine r_bipush (v := (-2)) dX7_whom_28 rfl ?_
        refine r_ireturn dX7_whom_30 rfl rfl ?_
        exact K
end RFE
