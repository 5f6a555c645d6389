/-! copy -/
def Hd (f m : Int32) (y : Nat) : Prop := ∃ i k, f = nI i ∧ m = nI k ∧ i + k ≤ y
theorem hd_of {f m : Int32} {y : Nat} (hy : y ≤ 40) (h1 : ¬ m < 0) (h2 : ¬ f < 0) (h3 : ¬ nI y < m) (h4 : ¬ nI y - m < f) : Hd f m y := by
  obtain ⟨k, hk, rfl⟩ := nI_of h1
  obtain ⟨i, hi, rfl⟩ := nI_of h2
  have hky : k ≤ y := by
    rcases Nat.lt_or_ge y k with q | q
    · exact absurd (nI_lt q hk) h3
    · exact q
  rw [pk_sub hky] at h4
  refine ⟨i, k, rfl, rfl, ?_⟩
  rcases Nat.lt_or_ge (y - k) i with q | q
  · exact absurd (nI_lt q hi) h4
  · omega
theorem sub_int {y i : Nat} (hy : y ≤ 40) (hi : i < 2 ^ 31) : (nI y - nI i).toInt = (y : Int) - i := by
  have e1 := nI_toInt (n := y) (by omega)
  have e2 := nI_toInt hi
  rw [fb_subI (by omega) (by omega), e1, e2]
theorem cp_step {g f : Nat → Int32} {i : Nat} {v : Int32} (hg : ∀ j, j < i → g j = f j) (hv : v = f i) : ∀ j, j < i + 1 → upd g i v j = f j := by
  intro j hj
  by_cases e : j = i
  · subst e; rw [upd_eq]; exact hv
  · rw [u_no e]; exact hg j (by omega)
theorem hd_two {iv jv mv : Int32} {a b : Nat} (ha : a ≤ 40) (hb : b ≤ 40) (b60 : ¬ mv < 0) (b64 : ¬ iv < 0) (b69 : ¬ jv < 0) (b82 : ¬ nI a - iv < mv) (b96 : mv ≤ nI b - jv) : Hd iv mv a ∧ Hd jv mv b := by
  obtain ⟨m, hm, rfl⟩ := nI_of b60
  obtain ⟨x, hx, rfl⟩ := nI_of b64
  obtain ⟨y, hy, rfl⟩ := nI_of b69
  have e1 := nI_toInt hm
  rw [i_lt, sub_int ha hx, e1] at b82
  rw [i_le, sub_int hb hy, e1] at b96
  exact ⟨⟨x, m, rfl, rfl, by omega⟩, ⟨y, m, rfl, rfl, by omega⟩⟩
section OPS12
variable {E : mE} {d : Nat} {A S : mA} {L : mJ} {Ph : mP} {T n z p r s q : Nat}
set_option maxRecDepth 100000 in
set_option maxHeartbeats 4000000 in
theorem sp_holds (hE : hC E) (hs : s < 4) {f m : Int32} {y : Nat} (hy : y ≤ 40) (h2 : A (8 + s) 2 = nI y) (hT : Hd f m y → Ph (some (.int 1)) A L) (hF : ¬ Hd f m y → Ph (some (.int 0)) A L) : qC E mm_X3_holds d [.ref (8 + s), .int f, .int m] A L Ph := by
  have no : (m < 0 ∨ f < 0 ∨ nI y < m ∨ nI y - m < f) → ¬ Hd f m y := by
    rintro h ⟨i, k, rfl, rfl, hik⟩
    rcases h with h | h | h | h
    · exact nI_pos (by omega) h
    · exact nI_pos (by omega) h
    · exact nI_nlt (by omega) (by omega) h
    · rw [pk_sub (by omega)] at h
      exact nI_nlt (by omega) (by omega) h
  refine qC.enter (by decide) (Nat.le_of_ble_eq_true rfl) ?_
  refine r_iload_n dX3_holds_0 rfl ?_
  refine r_if_lt (tgt := 30) dX3_holds_1 (by decide) (fun b1 => ?_) (fun b1 => ?_)
  · refine r_iconst (v := 0) dX3_holds_30 rfl ?_
    refine r_ireturn dX3_holds_31 rfl (by decide) ?_
    first | exact hF (no (Or.inl b1)) | exact hF (no (Or.inr (Or.inl b5))) | exact hF (no (Or.inr (Or.inr (Or.inl b13)))) | exact hF (no (Or.inr (Or.inr (Or.inr b23)))) | exact hT (hd_of hy b1 b5 b13 b23)
  · refine r_iload_n dX3_holds_4 rfl ?_
    refine r_if_lt (tgt := 30) dX3_holds_5 (by decide) (fun b5 => ?_) (fun b5 => ?_)
    · refine r_iconst (v := 0) dX3_holds_30 rfl ?_
      refine r_ireturn dX3_holds_31 rfl (by decide) ?_
      first | exact hF (no (Or.inl b1)) | exact hF (no (Or.inr (Or.inl b5))) | exact hF (no (Or.inr (Or.inr (Or.inl b13)))) | exact hF (no (Or.inr (Or.inr (Or.inr b23)))) | exact hT (hd_of hy b1 b5 b13 b23)
    · refine r_iload_n dX3_holds_8 rfl ?_
      refine r_aload_n dX3_holds_9 rfl ?_
      refine r_getI dX3_holds_10 fl_X3_23 (ly_sh hE hs) rfl ?_
      refine r_rw (y := nI y) h2 ?_
      refine r_icmp_gt (tgt := 30) dX3_holds_13 (by decide) (fun b13 => ?_) (fun b13 => ?_)
      · refine r_iconst (v := 0) dX3_holds_30 rfl ?_
        refine r_ireturn dX3_holds_31 rfl (by decide) ?_
        first | exact hF (no (Or.inl b1)) | exact hF (no (Or.inr (Or.inl b5))) | exact hF (no (Or.inr (Or.inr (Or.inl b13)))) | exact hF (no (Or.inr (Or.inr (Or.inr b23)))) | exact hT (hd_of hy b1 b5 b13 b23)
      · refine r_iload_n dX3_holds_16 rfl ?_
        refine r_aload_n dX3_holds_17 rfl ?_
        refine r_getI dX3_holds_18 fl_X3_23 (ly_sh hE hs) rfl ?_
        refine r_rw (y := nI y) h2 ?_
        refine r_iload_n dX3_holds_21 rfl ?_
        refine r_isub dX3_holds_22 ?_
        refine r_icmp_gt (tgt := 30) dX3_holds_23 (by decide) (fun b23 => ?_) (fun b23 => ?_)
        · refine r_iconst (v := 0) dX3_holds_30 rfl ?_
          refine r_ireturn dX3_holds_31 rfl (by decide) ?_
          first | exact hF (no (Or.inl b1)) | exact hF (no (Or.inr (Or.inl b5))) | exact hF (no (Or.inr (Or.inr (Or.inl b13)))) | exact hF (no (Or.inr (Or.inr (Or.inr b23)))) | exact hT (hd_of hy b1 b5 b13 b23)
        · refine r_iconst (v := 1) dX3_holds_26 rfl ?_
          refine r_goto (tgt := 31) dX3_holds_27 (by decide) ?_
          refine r_ireturn dX3_holds_31 rfl (by decide) ?_
          first | exact hF (no (Or.inl b1)) | exact hF (no (Or.inr (Or.inl b5))) | exact hF (no (Or.inr (Or.inr (Or.inl b13)))) | exact hF (no (Or.inr (Or.inr (Or.inr b23)))) | exact hT (hd_of hy b1 b5 b13 b23)
set_option maxRecDepth 100000 in
set_option maxHeartbeats 4000000 in
theorem cp1_loop (hE : hM E) {x y m : Nat} (hs : s < 4) (hx : x + m ≤ 40) (h : ∀ g, (∀ j, j < m → g j = A 55 (40 * s + x + j)) → qG E mm_X7_copy d 139 [(6, .int (nI m)), (0, .ref 38), (1, .int (nI s)), (2, .int (nI x)), (3, .int (nI q)), (4, .int (nI y)), (5, .int (nI m))] [] (va_up A 56 g) L Ph) : ∀ (k i : Nat) (g : Nat → Int32), i + k = m → (∀ j, j < i → g j = A 55 (40 * s + x + j)) → qG E mm_X7_copy d 105 [(6, .int (nI i)), (0, .ref 38), (1, .int (nI s)), (2, .int (nI x)), (3, .int (nI q)), (4, .int (nI y)), (5, .int (nI m))] [] (va_up A 56 g) L Ph := by
  intro k
  induction k with
  | zero =>
    intro i g hi hg
    have hi : i = m := by omega
    subst hi
    refine r_iload dX7_copy_105 rfl ?_
    refine r_iload dX7_copy_107 rfl ?_
    refine r_icmp_ge (tgt := 139) dX7_copy_109 (by decide) (fun _ => ?_) (fun hqz => absurd (nI_le (Nat.le_refl _) (by omega)) hqz)
    exact h g hg
  | succ k ih =>
    intro i g hi hg
    refine r_iload dX7_copy_105 rfl ?_
    refine r_iload dX7_copy_107 rfl ?_
    refine r_icmp_ge (tgt := 139) dX7_copy_109 (by decide) (fun hqz => absurd hqz (nI_ge (show i < m by omega) (by omega))) (fun _ => ?_)
    refine r_aload_n dX7_copy_112 rfl ?_
    refine r_getR dX7_copy_113 fl_X7_72 (ly_38 hE) rfl ?_
    refine r_iload dX7_copy_116 rfl ?_
    refine r_aload_n dX7_copy_118 rfl ?_
    refine r_getR dX7_copy_119 fl_X7_69 (ly_38 hE) rfl ?_
    refine r_bipush (v := 40) dX7_copy_122 rfl ?_
    refine r_iload_n dX7_copy_124 rfl ?_
    refine r_imul dX7_copy_125 ?_
    refine r_iload_n dX7_copy_126 rfl ?_
    refine r_iadd dX7_copy_127 ?_
    refine r_iload dX7_copy_128 rfl ?_
    refine r_iadd dX7_copy_130 ?_
    refine r_rw (y := nI (40 * s + x + i)) (show nI 40 * nI s + nI x + nI i = _ by rw [pk_mul, nI_add, nI_add]) ?_
    refine r_ialdN dX7_copy_131 (ly_55 hE) (by omega) (by decide) ?_
    refine r_iastN dX7_copy_132 (ly_56 hE) (by omega) (by decide) ?_
    refine r_iinc (v := (nI (i + 1))) (loc' := [(6, .int (nI (i + 1))), (0, .ref 38), (1, .int (nI s)), (2, .int (nI x)), (3, .int (nI q)), (4, .int (nI y)), (5, .int (nI m))]) dX7_copy_133 rfl ((nI_succ _).symm) (by decide) rfl ?_
    refine r_goto (tgt := 105) dX7_copy_136 (by decide) ?_
    refine qG.pick [0, 1, 2, 3, 4, 5, 6] rfl ?_
    rw [s2_up]
    exact ih (i + 1) _ (by omega) (cp_step hg rfl)
set_option maxRecDepth 100000 in
set_option maxHeartbeats 4000000 in
theorem cp2_loop (hE : hM E) {x y m : Nat} (hq : q < 4) (hy : y + m ≤ 40) {g : Nat → Int32} (hg : A 56 = g) (h : Ph (some (.int (nI m))) (va_up A 55 (fb_put (A 55) g (40 * q + y) m)) L) : ∀ (k i : Nat), i + k = m → qG E mm_X7_copy d 142 [(6, .int (nI i)), (0, .ref 38), (1, .int (nI s)), (2, .int (nI x)), (3, .int (nI q)), (4, .int (nI y)), (5, .int (nI m))] [] (va_up A 55 (fb_put (A 55) g (40 * q + y) i)) L Ph := by
  intro k
  induction k with
  | zero =>
    intro i hi
    have hi : i = m := by omega
    subst hi
    refine r_iload dX7_copy_142 rfl ?_
    refine r_iload dX7_copy_144 rfl ?_
    refine r_icmp_ge (tgt := 177) dX7_copy_146 (by decide) (fun _ => ?_) (fun hqz => absurd (nI_le (Nat.le_refl _) (by omega)) hqz)
    refine r_iload dX7_copy_177 rfl ?_
    refine r_ireturn dX7_copy_179 rfl rfl ?_
    exact h
  | succ k ih =>
    intro i hi
    refine r_iload dX7_copy_142 rfl ?_
    refine r_iload dX7_copy_144 rfl ?_
    refine r_icmp_ge (tgt := 177) dX7_copy_146 (by decide) (fun hqz => absurd hqz (nI_ge (show i < m by omega) (by omega))) (fun _ => ?_)
    refine r_aload_n dX7_copy_149 rfl ?_
    refine r_getR dX7_copy_150 fl_X7_69 (ly_38 hE) rfl ?_
    refine r_bipush (v := 40) dX7_copy_153 rfl ?_
    refine r_iload_n dX7_copy_155 rfl ?_
    refine r_imul dX7_copy_156 ?_
    refine r_iload dX7_copy_157 rfl ?_
    refine r_iadd dX7_copy_159 ?_
    refine r_iload dX7_copy_160 rfl ?_
    refine r_iadd dX7_copy_162 ?_
    refine r_rw (y := nI (40 * q + y + i)) (show nI 40 * nI q + nI y + nI i = _ by rw [pk_mul, nI_add, nI_add]) ?_
    refine r_aload_n dX7_copy_163 rfl ?_
    refine r_getR dX7_copy_164 fl_X7_72 (ly_38 hE) rfl ?_
    refine r_iload dX7_copy_167 rfl ?_
    refine r_ialdN dX7_copy_169 (ly_56 hE) (by omega) (by decide) ?_
    refine r_rw (y := g i) (by rw [va_up_no (by decide), hg]) ?_
    refine r_iastN dX7_copy_170 (ly_55 hE) (by omega) (by decide) ?_
    refine r_iinc (v := (nI (i + 1))) (loc' := [(6, .int (nI (i + 1))), (0, .ref 38), (1, .int (nI s)), (2, .int (nI x)), (3, .int (nI q)), (4, .int (nI y)), (5, .int (nI m))]) dX7_copy_171 rfl ((nI_succ _).symm) (by decide) rfl ?_
    refine r_goto (tgt := 142) dX7_copy_174 (by decide) ?_
    refine qG.pick [0, 1, 2, 3, 4, 5, 6] rfl ?_
    rw [s2_up, fb_put_succ]
    exact ih (i + 1) (by omega)
set_option maxRecDepth 100000 in
set_option maxHeartbeats 4000000 in
theorem op_copy (hE : hM E) (hW : WfS S T n z) (sv iv ov jv mv : Int32) : OpOK E (d + 3) mm_X6_copy mm_X7_copy [.int sv, .int iv, .int ov, .int jv, .int mv] S T n z := by
  have hEc := hE.c
  have hN := hW.2.2.2.2.1
  have hn := hN.1
  have h60 := hN.2.1
  have sam : ∀ v : Int32, (∀ (A : mA) (L : mJ) (Ph : mP), RC A S T n z → Ph (some (.int v)) A L → qC E mm_X6_copy (d + 3) [.ref 0, .int sv, .int iv, .int ov, .int jv, .int mv] A L Ph) → (∀ (A : mA) (L : mJ) (Ph : mP), RM A S T → A 53 = S 53 → A 54 = S 54 → Ph (some (.int v)) A L → qC E mm_X7_copy (d + 3) [.ref 38, .int sv, .int iv, .int ov, .int jv, .int mv] A L Ph) → OpOK E (d + 3) mm_X6_copy mm_X7_copy [.int sv, .int iv, .int ov, .int jv, .int mv] S T n z := fun v h1 h2 => ⟨.int v, S, T, n, z, ⟨_, rfl⟩, hW, fun A L Ph hR hk => h1 A L Ph hR (hk A L hR (fun _ _ => rfl)), fun A L Ph hR hk => h2 A L Ph hR hR.2.2.2.2.2.2.2.2.1 hR.2.2.2.2.2.2.2.2.2.1 (hk A L hR (fun _ _ => rfl))⟩
  by_cases hb : (∃ s, s < 4 ∧ sv = nI s) ∧ ∃ q, q < 4 ∧ ov = nI q
  · obtain ⟨⟨s, hs, rfl⟩, ⟨q, hq, rfl⟩⟩ := hb
    obtain ⟨-, a, ha, e54⟩ := hW.2.2.2.2.2.2.2 s hs
    obtain ⟨-, b, hb', f54⟩ := hW.2.2.2.2.2.2.2 q hq
    by_cases m1 : S 53 s = -1 ∨ S 53 q = -1
    · refine sam (-11) (fun A L Ph hR K => ?_) (fun A L Ph hR r53 r54 K => ?_)
      · by_cases m2 : S 53 s = -1
        · skip
          refine qC.enter (by decide) (Nat.le_of_ble_eq_true rfl) ?_
          refine r_iload_n dX6_copy_0 rfl ?_
          refine r_iconst (v := 4) dX6_copy_1 rfl ?_
          refine r_callS2 dX6_copy_2 lk_X6_100 (Nat.le_of_ble_eq_true rfl) (win_t (lim := 4) rfl (by decide) hs ?_)
          refine r_if_eq (tgt := 16) dX6_copy_5 (by decide) (fun hqz => absurd hqz (by decide)) (fun _ => ?_)
          refine r_iload_n dX6_copy_8 rfl ?_
          refine r_iconst (v := 4) dX6_copy_9 rfl ?_
          refine r_callS2 dX6_copy_10 lk_X6_100 (Nat.le_of_ble_eq_true rfl) (win_t (lim := 4) rfl (by decide) hq ?_)
          refine r_if_ne (tgt := 19) dX6_copy_13 (by decide) (fun _ => ?_) (fun hqz => absurd hqz (by decide))
          refine r_aload_n dX6_copy_19 rfl ?_
          refine r_getR dX6_copy_20 fl_X6_52 (ly_0 hEc) rfl ?_
          refine r_iload_n dX6_copy_23 rfl ?_
          refine r_aaldN dX6_copy_24 (ly_7 hEc) (show s < 4 by omega) (by decide) (ly_7r (by omega)) ?_
          refine r_astore (loc' := [(6, .ref (8 + s)), (0, .ref 0), (1, .int (nI s)), (2, .int iv), (3, .int (nI q)), (4, .int jv), (5, .int mv)]) dX6_copy_25 (by decide) rfl ?_
          refine r_aload_n dX6_copy_27 rfl ?_
          refine r_getR dX6_copy_28 fl_X6_52 (ly_0 hEc) rfl ?_
          refine r_iload_n dX6_copy_31 rfl ?_
          refine r_aaldN dX6_copy_32 (ly_7 hEc) (show q < 4 by omega) (by decide) (ly_7r (by omega)) ?_
          refine r_astore (loc' := [(7, .ref (8 + q)), (6, .ref (8 + s)), (0, .ref 0), (1, .int (nI s)), (2, .int iv), (3, .int (nI q)), (4, .int jv), (5, .int mv)]) dX6_copy_33 (by decide) rfl ?_
          refine r_aload dX6_copy_35 rfl ?_
          refine r_callV0 dX6_copy_37 lk_X6_246 (ly_sh hEc hs) rfl (Nat.le_of_ble_eq_true rfl) (mis_t hEc hs ((hR.2.2.2.2.2 s hs).1.trans m2) ?_)
          refine r_if_ne (tgt := 51) dX6_copy_40 (by decide) (fun _ => ?_) (fun hqz => absurd hqz (by decide))
          refine r_bipush (v := (-11)) dX6_copy_51 rfl ?_
          refine r_ireturn dX6_copy_53 rfl rfl ?_
          exact K
        · skip
          refine qC.enter (by decide) (Nat.le_of_ble_eq_true rfl) ?_
          refine r_iload_n dX6_copy_0 rfl ?_
          refine r_iconst (v := 4) dX6_copy_1 rfl ?_
          refine r_callS2 dX6_copy_2 lk_X6_100 (Nat.le_of_ble_eq_true rfl) (win_t (lim := 4) rfl (by decide) hs ?_)
          refine r_if_eq (tgt := 16) dX6_copy_5 (by decide) (fun hqz => absurd hqz (by decide)) (fun _ => ?_)
          refine r_iload_n dX6_copy_8 rfl ?_
          refine r_iconst (v := 4) dX6_copy_9 rfl ?_
          refine r_callS2 dX6_copy_10 lk_X6_100 (Nat.le_of_ble_eq_true rfl) (win_t (lim := 4) rfl (by decide) hq ?_)
          refine r_if_ne (tgt := 19) dX6_copy_13 (by decide) (fun _ => ?_) (fun hqz => absurd hqz (by decide))
          refine r_aload_n dX6_copy_19 rfl ?_
          refine r_getR dX6_copy_20 fl_X6_52 (ly_0 hEc) rfl ?_
          refine r_iload_n dX6_copy_23 rfl ?_
          refine r_aaldN dX6_copy_24 (ly_7 hEc) (show s < 4 by omega) (by decide) (ly_7r (by omega)) ?_
          refine r_astore (loc' := [(6, .ref (8 + s)), (0, .ref 0), (1, .int (nI s)), (2, .int iv), (3, .int (nI q)), (4, .int jv), (5, .int mv)]) dX6_copy_25 (by decide) rfl ?_
          refine r_aload_n dX6_copy_27 rfl ?_
          refine r_getR dX6_copy_28 fl_X6_52 (ly_0 hEc) rfl ?_
          refine r_iload_n dX6_copy_31 rfl ?_
          refine r_aaldN dX6_copy_32 (ly_7 hEc) (show q < 4 by omega) (by decide) (ly_7r (by omega)) ?_
          refine r_astore (loc' := [(7, .ref (8 + q)), (6, .ref (8 + s)), (0, .ref 0), (1, .int (nI s)), (2, .int iv), (3, .int (nI q)), (4, .int jv), (5, .int mv)]) dX6_copy_33 (by decide) rfl ?_
          refine r_aload dX6_copy_35 rfl ?_
          refine r_callV0 dX6_copy_37 lk_X6_246 (ly_sh hEc hs) rfl (Nat.le_of_ble_eq_true rfl) (mis_f hEc hs (by rw [(hR.2.2.2.2.2 s hs).1]; exact m2) ?_)
          refine r_if_ne (tgt := 51) dX6_copy_40 (by decide) (fun hqz => absurd (by decide) hqz) (fun _ => ?_)
          refine r_aload dX6_copy_43 rfl ?_
          refine r_callV0 dX6_copy_45 lk_X6_246 (ly_sh hEc hq) rfl (Nat.le_of_ble_eq_true rfl) (mis_t hEc hq ((hR.2.2.2.2.2 q hq).1.trans (m1.resolve_left m2)) ?_)
          refine r_if_eq (tgt := 54) dX6_copy_48 (by decide) (fun hqz => absurd hqz (by decide)) (fun _ => ?_)
          refine r_bipush (v := (-11)) dX6_copy_51 rfl ?_
          refine r_ireturn dX6_copy_53 rfl rfl ?_
          exact K
      · skip
        refine qC.enter (by decide) (Nat.le_of_ble_eq_true rfl) ?_
        refine r_iload_n dX7_copy_0 rfl ?_
        refine r_callS1 dX7_copy_1 lk_X7_254 (Nat.le_of_ble_eq_true rfl) (iss_t hE hs ?_)
        refine r_if_eq (tgt := 14) dX7_copy_4 (by decide) (fun hqz => absurd hqz (by decide)) (fun _ => ?_)
        refine r_iload_n dX7_copy_7 rfl ?_
        refine r_callS1 dX7_copy_8 lk_X7_254 (Nat.le_of_ble_eq_true rfl) (iss_t hE hq ?_)
        refine r_if_ne (tgt := 17) dX7_copy_11 (by decide) (fun _ => ?_) (fun hqz => absurd hqz (by decide))
        refine r_aload_n dX7_copy_17 rfl ?_
        refine r_getR dX7_copy_18 fl_X7_63 (ly_38 hE) rfl ?_
        refine r_iload_n dX7_copy_21 rfl ?_
        refine r_ialdN dX7_copy_22 (ly_53 hE) (by omega) (by decide) ?_
        refine r_rw (y := S 53 s) (by rw [r53]) ?_
        refine r_iconst (v := (-1)) dX7_copy_23 rfl ?_
        refine r_icmp_eq (tgt := 37) dX7_copy_24 (by decide) (fun b24 => ?_) (fun b24 => ?_)
        · refine r_bipush (v := (-11)) dX7_copy_37 rfl ?_
          refine r_ireturn dX7_copy_39 rfl rfl ?_
          exact K
        · refine r_aload_n dX7_copy_27 rfl ?_
          refine r_getR dX7_copy_28 fl_X7_63 (ly_38 hE) rfl ?_
          refine r_iload_n dX7_copy_31 rfl ?_
          refine r_ialdN dX7_copy_32 (ly_53 hE) (by omega) (by decide) ?_
          refine r_rw (y := S 53 q) (by rw [r53]) ?_
          refine r_iconst (v := (-1)) dX7_copy_33 rfl ?_
          refine r_icmp_ne (tgt := 40) dX7_copy_34 (by decide) (fun hqz => absurd (m1.resolve_left b24) hqz) (fun _ => ?_)
          refine r_bipush (v := (-11)) dX7_copy_37 rfl ?_
          refine r_ireturn dX7_copy_39 rfl rfl ?_
          exact K
    · have m2 : ¬ S 53 s = -1 := fun e => m1 (Or.inl e)
      have m3 : ¬ S 53 q = -1 := fun e => m1 (Or.inr e)
      by_cases t1 : S 53 s = S 53 q
      · by_cases hh : Hd iv mv a ∧ Hd jv mv b
        · obtain ⟨⟨x, m, rfl, rfl, hxm⟩, ⟨y, m', rfl, em, hym⟩⟩ := hh
          have em' : m' = m := by
            have hm : m < 2 ^ 31 := by omega
            have hm' : m' < 2 ^ 31 := by omega
            exact ((nI_eq hm hm').mp em).symm
          subst em'
          refine ⟨.int (nI m'), va_up S 55 (fb_put (S 55) (fun k => S 55 (40 * s + x + k)) (40 * q + y) m'), T, n, z, ⟨_, rfl⟩, hW.sh (Fr.up (by decide)) (fun r hr => by rw [va_up_no (by decide), va_up_no (by decide)]; exact hW.2.2.2.2.2.2.2 r hr), fun A L Ph hR hk => ?_, fun A L Ph hR hk => ?_⟩
          · obtain ⟨a1, a2, a3⟩ := hR.2.2.2.2.2 s hs
            obtain ⟨c1, c2, c3⟩ := hR.2.2.2.2.2 q hq
            have fr : Fr [34 + q] A (va_up A (34 + q) (va_cpy (A (34 + s)) (A (34 + q)) x y m')) := Fr.up (by simp)
            have K := hk _ L (hR.sh (S' := va_up S 55 (fb_put (S 55) (fun k => S 55 (40 * s + x + k)) (40 * q + y) m')) (Fr.up (by decide)) (fr.mo (by simp; omega)) (fun t ht => by
              obtain ⟨b1, b2, b3⟩ := hR.2.2.2.2.2 t ht
              rw [fr (8 + t) (by simp; omega), va_up_no (show (53 : Nat) ≠ 55 by decide), va_up_no (show (54 : Nat) ≠ 55 by decide)]
              refine ⟨b1, b2, fun j hj => ?_⟩
              rw [va_up_eq]
              by_cases e : t = q
              · subst e
                rw [va_up_eq]
                by_cases c : y ≤ j ∧ j < y + m'
                · rw [pk_cpy_in c.1 c.2, fb_put_in (by omega) (by omega), a3 _ (by omega)]
                  congr 1
                  omega
                · rw [pk_cpy_out (by omega), fb_put_out (by omega)]
                  exact b3 j hj
              · rw [va_up_no (by omega), fb_put_out (by omega)]
                exact b3 j hj)) (Fr.hi fr (by simp; omega))
            refine qC.enter (by decide) (Nat.le_of_ble_eq_true rfl) ?_
            refine r_iload_n dX6_copy_0 rfl ?_
            refine r_iconst (v := 4) dX6_copy_1 rfl ?_
            refine r_callS2 dX6_copy_2 lk_X6_100 (Nat.le_of_ble_eq_true rfl) (win_t (lim := 4) rfl (by decide) hs ?_)
            refine r_if_eq (tgt := 16) dX6_copy_5 (by decide) (fun hqz => absurd hqz (by decide)) (fun _ => ?_)
            refine r_iload_n dX6_copy_8 rfl ?_
            refine r_iconst (v := 4) dX6_copy_9 rfl ?_
            refine r_callS2 dX6_copy_10 lk_X6_100 (Nat.le_of_ble_eq_true rfl) (win_t (lim := 4) rfl (by decide) hq ?_)
            refine r_if_ne (tgt := 19) dX6_copy_13 (by decide) (fun _ => ?_) (fun hqz => absurd hqz (by decide))
            refine r_aload_n dX6_copy_19 rfl ?_
            refine r_getR dX6_copy_20 fl_X6_52 (ly_0 hEc) rfl ?_
            refine r_iload_n dX6_copy_23 rfl ?_
            refine r_aaldN dX6_copy_24 (ly_7 hEc) (show s < 4 by omega) (by decide) (ly_7r (by omega)) ?_
            refine r_astore (loc' := [(6, .ref (8 + s)), (0, .ref 0), (1, .int (nI s)), (2, .int (nI x)), (3, .int (nI q)), (4, .int (nI y)), (5, .int (nI m'))]) dX6_copy_25 (by decide) rfl ?_
            refine r_aload_n dX6_copy_27 rfl ?_
            refine r_getR dX6_copy_28 fl_X6_52 (ly_0 hEc) rfl ?_
            refine r_iload_n dX6_copy_31 rfl ?_
            refine r_aaldN dX6_copy_32 (ly_7 hEc) (show q < 4 by omega) (by decide) (ly_7r (by omega)) ?_
            refine r_astore (loc' := [(7, .ref (8 + q)), (6, .ref (8 + s)), (0, .ref 0), (1, .int (nI s)), (2, .int (nI x)), (3, .int (nI q)), (4, .int (nI y)), (5, .int (nI m'))]) dX6_copy_33 (by decide) rfl ?_
            refine r_aload dX6_copy_35 rfl ?_
            refine r_callV0 dX6_copy_37 lk_X6_246 (ly_sh hEc hs) rfl (Nat.le_of_ble_eq_true rfl) (mis_f hEc hs (by rw [a1]; exact m2) ?_)
            refine r_if_ne (tgt := 51) dX6_copy_40 (by decide) (fun hqz => absurd (by decide) hqz) (fun _ => ?_)
            refine r_aload dX6_copy_43 rfl ?_
            refine r_callV0 dX6_copy_45 lk_X6_246 (ly_sh hEc hq) rfl (Nat.le_of_ble_eq_true rfl) (mis_f hEc hq (by rw [c1]; exact m3) ?_)
            refine r_if_eq (tgt := 54) dX6_copy_48 (by decide) (fun _ => ?_) (fun hqz => absurd (by decide) hqz)
            refine r_aload dX6_copy_54 rfl ?_
            refine r_getI dX6_copy_56 fl_X6_307 (ly_sh hEc hs) rfl ?_
            refine r_aload dX6_copy_59 rfl ?_
            refine r_getI dX6_copy_61 fl_X6_307 (ly_sh hEc hq) rfl ?_
            refine r_icmp_eq (tgt := 70) dX6_copy_64 (by decide) (fun _ => ?_) (fun hqz => absurd (by rw [a1, c1]; exact t1) hqz)
            refine r_aload dX6_copy_70 rfl ?_
            refine r_iload_n dX6_copy_72 rfl ?_
            refine r_iload dX6_copy_73 rfl ?_
            refine r_callV2 dX6_copy_75 lk_X6_310 (ly_sh hEc hs) rfl (Nat.le_of_ble_eq_true rfl) (sp_holds hEc hs ha (a2.trans e54) (fun _ => ?_) (fun q' => absurd ⟨x, m', rfl, rfl, hxm⟩ q'))
            refine r_if_eq (tgt := 93) dX6_copy_78 (by decide) (fun hqz => absurd hqz (by decide)) (fun _ => ?_)
            refine r_aload dX6_copy_81 rfl ?_
            refine r_iload dX6_copy_83 rfl ?_
            refine r_iload dX6_copy_85 rfl ?_
            refine r_callV2 dX6_copy_87 lk_X6_310 (ly_sh hEc hq) rfl (Nat.le_of_ble_eq_true rfl) (sp_holds hEc hq hb' (c2.trans f54) (fun _ => ?_) (fun q' => absurd ⟨y, m', rfl, rfl, hym⟩ q'))
            refine r_if_ne (tgt := 96) dX6_copy_90 (by decide) (fun _ => ?_) (fun hqz => absurd hqz (by decide))
            refine r_aload dX6_copy_96 rfl ?_
            refine r_getR dX6_copy_98 fl_X6_313 (ly_sh hEc hs) rfl ?_
            refine r_iload_n dX6_copy_101 rfl ?_
            refine r_aload dX6_copy_102 rfl ?_
            refine r_getR dX6_copy_104 fl_X6_313 (ly_sh hEc hq) rfl ?_
            refine r_iload dX6_copy_107 rfl ?_
            refine r_iload dX6_copy_109 rfl ?_
            refine r_copyi (sp := x) (dp := y) (n := m') dX6_copy_111 lac_X6_316 (ly_ce hEc hs) (ly_ce hEc hq) (by omega) (by omega) (by decide) (by decide) (Nat.le_of_ble_eq_true rfl) ?_
            refine r_iload dX6_copy_114 rfl ?_
            refine r_ireturn dX6_copy_116 rfl rfl ?_
            exact K
          · have r53 := hR.2.2.2.2.2.2.2.2.1
            have r54 := hR.2.2.2.2.2.2.2.2.2.1
            have r55 := hR.2.2.2.2.2.2.2.2.2.2.1
            have hx31 : x < 2 ^ 31 := by omega
            refine qC.enter (by decide) (Nat.le_of_ble_eq_true rfl) ?_
            refine r_iload_n dX7_copy_0 rfl ?_
            refine r_callS1 dX7_copy_1 lk_X7_254 (Nat.le_of_ble_eq_true rfl) (iss_t hE hs ?_)
            refine r_if_eq (tgt := 14) dX7_copy_4 (by decide) (fun hqz => absurd hqz (by decide)) (fun _ => ?_)
            refine r_iload_n dX7_copy_7 rfl ?_
            refine r_callS1 dX7_copy_8 lk_X7_254 (Nat.le_of_ble_eq_true rfl) (iss_t hE hq ?_)
            refine r_if_ne (tgt := 17) dX7_copy_11 (by decide) (fun _ => ?_) (fun hqz => absurd hqz (by decide))
            refine r_aload_n dX7_copy_17 rfl ?_
            refine r_getR dX7_copy_18 fl_X7_63 (ly_38 hE) rfl ?_
            refine r_iload_n dX7_copy_21 rfl ?_
            refine r_ialdN dX7_copy_22 (ly_53 hE) (by omega) (by decide) ?_
            refine r_rw (y := S 53 s) (by rw [r53]) ?_
            refine r_iconst (v := (-1)) dX7_copy_23 rfl ?_
            refine r_icmp_eq (tgt := 37) dX7_copy_24 (by decide) (fun hqz => absurd hqz m2) (fun _ => ?_)
            refine r_aload_n dX7_copy_27 rfl ?_
            refine r_getR dX7_copy_28 fl_X7_63 (ly_38 hE) rfl ?_
            refine r_iload_n dX7_copy_31 rfl ?_
            refine r_ialdN dX7_copy_32 (ly_53 hE) (by omega) (by decide) ?_
            refine r_rw (y := S 53 q) (by rw [r53]) ?_
            refine r_iconst (v := (-1)) dX7_copy_33 rfl ?_
            refine r_icmp_ne (tgt := 40) dX7_copy_34 (by decide) (fun _ => ?_) (fun hqz => absurd hqz m3)
            refine r_aload_n dX7_copy_40 rfl ?_
            refine r_getR dX7_copy_41 fl_X7_63 (ly_38 hE) rfl ?_
            refine r_iload_n dX7_copy_44 rfl ?_
            refine r_ialdN dX7_copy_45 (ly_53 hE) (by omega) (by decide) ?_
            refine r_rw (y := S 53 s) (by rw [r53]) ?_
            refine r_aload_n dX7_copy_46 rfl ?_
            refine r_getR dX7_copy_47 fl_X7_63 (ly_38 hE) rfl ?_
            refine r_iload_n dX7_copy_50 rfl ?_
            refine r_ialdN dX7_copy_51 (ly_53 hE) (by omega) (by decide) ?_
            refine r_rw (y := S 53 q) (by rw [r53]) ?_
            refine r_icmp_eq (tgt := 58) dX7_copy_52 (by decide) (fun _ => ?_) (fun hqz => absurd t1 hqz)
            refine r_iload dX7_copy_58 rfl ?_
            refine r_if_lt (tgt := 99) dX7_copy_60 (by decide) (fun hqz => absurd hqz (nI_pos (by omega))) (fun _ => ?_)
            refine r_iload_n dX7_copy_63 rfl ?_
            refine r_if_lt (tgt := 99) dX7_copy_64 (by decide) (fun hqz => absurd hqz (nI_pos (by omega))) (fun _ => ?_)
            refine r_iload dX7_copy_67 rfl ?_
            refine r_if_lt (tgt := 99) dX7_copy_69 (by decide) (fun hqz => absurd hqz (nI_pos (by omega))) (fun _ => ?_)
            refine r_iload dX7_copy_72 rfl ?_
            refine r_aload_n dX7_copy_74 rfl ?_
            refine r_getR dX7_copy_75 fl_X7_66 (ly_38 hE) rfl ?_
            refine r_iload_n dX7_copy_78 rfl ?_
            refine r_ialdN dX7_copy_79 (ly_54 hE) (by omega) (by decide) ?_
            refine r_rw (y := nI a) (by rw [r54]; exact e54) ?_
            refine r_iload_n dX7_copy_80 rfl ?_
            refine r_isub dX7_copy_81 ?_
            refine r_rw (y := nI (a - x)) (pk_sub (by omega)) ?_
            refine r_icmp_gt (tgt := 99) dX7_copy_82 (by decide) (fun hqz => absurd hqz (nI_nlt (by omega) (by omega))) (fun _ => ?_)
            refine r_iload dX7_copy_85 rfl ?_
            refine r_aload_n dX7_copy_87 rfl ?_
            refine r_getR dX7_copy_88 fl_X7_66 (ly_38 hE) rfl ?_
            refine r_iload_n dX7_copy_91 rfl ?_
            refine r_ialdN dX7_copy_92 (ly_54 hE) (by omega) (by decide) ?_
            refine r_rw (y := nI b) (by rw [r54]; exact f54) ?_
            refine r_iload dX7_copy_93 rfl ?_
            refine r_isub dX7_copy_95 ?_
            refine r_rw (y := nI (b - y)) (pk_sub (by omega)) ?_
            refine r_icmp_le (tgt := 102) dX7_copy_96 (by decide) (fun _ => ?_) (fun hqz => absurd (nI_le (by omega) (by omega)) hqz)
            refine r_iconst (v := 0) dX7_copy_102 rfl ?_
            refine r_istore (loc' := [(6, .int 0), (0, .ref 38), (1, .int (nI s)), (2, .int (nI x)), (3, .int (nI q)), (4, .int (nI y)), (5, .int (nI m'))]) dX7_copy_103 (by decide) rfl ?_
            refine qG.pick [0, 1, 2, 3, 4, 5, 6] rfl ?_
            refine (fun J => by rw [up_self] at J; exact J) (cp1_loop (d := d + 3) (A := A) (L := L) (Ph := Ph) (y := y) (q := q) hE hs (by omega) (fun g hg => ?_) m' 0 (A 56) (by omega) (fun j hj => absurd hj (by omega)))
            have fr : Fr [53, 54, 55, 56] A (va_up (va_up A 56 g) 55 (fb_put ((va_up A 56 g) 55) g (40 * q + y) m')) := (Fr.up (by decide)).tr (Fr.up (by decide))
            have K := hk _ L (hR.sh (S' := va_up S 55 (fb_put (S 55) (fun k => S 55 (40 * s + x + k)) (40 * q + y) m')) (Fr.up (by decide)) fr (by rw [va_up_no (by decide), va_up_no (by decide), va_up_no (by decide), r53]) (by rw [va_up_no (by decide), va_up_no (by decide), va_up_no (by decide), r54]) (by rw [va_up_eq, va_up_eq, va_up_no (by decide), r55]; exact fb_put_cong (fun _ _ => rfl) (fun k hk => by rw [hg k hk, r55]))) (Fr.lo fr (by decide))
            have J2 := cp2_loop (d := d + 3) (A := va_up A 56 g) (L := L) (Ph := Ph) (s := s) (x := x) hE hq (by omega) (g := g) va_up_eq K m' 0 (by omega)
            rw [fb_put_0, up_self] at J2
            refine r_iconst (v := 0) dX7_copy_139 rfl ?_
            refine r_istore (loc' := [(6, .int 0), (0, .ref 38), (1, .int (nI s)), (2, .int (nI x)), (3, .int (nI q)), (4, .int (nI y)), (5, .int (nI m'))]) dX7_copy_140 (by decide) rfl ?_
            exact J2
        · refine sam (-12) (fun A L Ph hR K => ?_) (fun A L Ph hR r53 r54 K => ?_)
          · obtain ⟨a1, a2, a3⟩ := hR.2.2.2.2.2 s hs
            obtain ⟨c1, c2, c3⟩ := hR.2.2.2.2.2 q hq
            refine qC.enter (by decide) (Nat.le_of_ble_eq_true rfl) ?_
            refine r_iload_n dX6_copy_0 rfl ?_
            refine r_iconst (v := 4) dX6_copy_1 rfl ?_
            refine r_callS2 dX6_copy_2 lk_X6_100 (Nat.le_of_ble_eq_true rfl) (win_t (lim := 4) rfl (by decide) hs ?_)
            refine r_if_eq (tgt := 16) dX6_copy_5 (by decide) (fun hqz => absurd hqz (by decide)) (fun _ => ?_)
            refine r_iload_n dX6_copy_8 rfl ?_
            refine r_iconst (v := 4) dX6_copy_9 rfl ?_
            refine r_callS2 dX6_copy_10 lk_X6_100 (Nat.le_of_ble_eq_true rfl) (win_t (lim := 4) rfl (by decide) hq ?_)
            refine r_if_ne (tgt := 19) dX6_copy_13 (by decide) (fun _ => ?_) (fun hqz => absurd hqz (by decide))
            refine r_aload_n dX6_copy_19 rfl ?_
            refine r_getR dX6_copy_20 fl_X6_52 (ly_0 hEc) rfl ?_
            refine r_iload_n dX6_copy_23 rfl ?_
            refine r_aaldN dX6_copy_24 (ly_7 hEc) (show s < 4 by omega) (by decide) (ly_7r (by omega)) ?_
            refine r_astore (loc' := [(6, .ref (8 + s)), (0, .ref 0), (1, .int (nI s)), (2, .int iv), (3, .int (nI q)), (4, .int jv), (5, .int mv)]) dX6_copy_25 (by decide) rfl ?_
            refine r_aload_n dX6_copy_27 rfl ?_
            refine r_getR dX6_copy_28 fl_X6_52 (ly_0 hEc) rfl ?_
            refine r_iload_n dX6_copy_31 rfl ?_
            refine r_aaldN dX6_copy_32 (ly_7 hEc) (show q < 4 by omega) (by decide) (ly_7r (by omega)) ?_
            refine r_astore (loc' := [(7, .ref (8 + q)), (6, .ref (8 + s)), (0, .ref 0), (1, .int (nI s)), (2, .int iv), (3, .int (nI q)), (4, .int jv), (5, .int mv)]) dX6_copy_33 (by decide) rfl ?_
            refine r_aload dX6_copy_35 rfl ?_
            refine r_callV0 dX6_copy_37 lk_X6_246 (ly_sh hEc hs) rfl (Nat.le_of_ble_eq_true rfl) (mis_f hEc hs (by rw [a1]; exact m2) ?_)
            refine r_if_ne (tgt := 51) dX6_copy_40 (by decide) (fun hqz => absurd (by decide) hqz) (fun _ => ?_)
            refine r_aload dX6_copy_43 rfl ?_
            refine r_callV0 dX6_copy_45 lk_X6_246 (ly_sh hEc hq) rfl (Nat.le_of_ble_eq_true rfl) (mis_f hEc hq (by rw [c1]; exact m3) ?_)
            refine r_if_eq (tgt := 54) dX6_copy_48 (by decide) (fun _ => ?_) (fun hqz => absurd (by decide) hqz)
            refine r_aload dX6_copy_54 rfl ?_
            refine r_getI dX6_copy_56 fl_X6_307 (ly_sh hEc hs) rfl ?_
            refine r_aload dX6_copy_59 rfl ?_
            refine r_getI dX6_copy_61 fl_X6_307 (ly_sh hEc hq) rfl ?_
            refine r_icmp_eq (tgt := 70) dX6_copy_64 (by decide) (fun _ => ?_) (fun hqz => absurd (by rw [a1, c1]; exact t1) hqz)
            refine r_aload dX6_copy_70 rfl ?_
            refine r_iload_n dX6_copy_72 rfl ?_
            refine r_iload dX6_copy_73 rfl ?_
            refine r_callV2 dX6_copy_75 lk_X6_310 (ly_sh hEc hs) rfl (Nat.le_of_ble_eq_true rfl) (sp_holds hEc hs ha (a2.trans e54) (fun h1 => ?_) (fun _ => ?_))
            · refine r_if_eq (tgt := 93) dX6_copy_78 (by decide) (fun hqz => absurd hqz (by decide)) (fun _ => ?_)
              refine r_aload dX6_copy_81 rfl ?_
              refine r_iload dX6_copy_83 rfl ?_
              refine r_iload dX6_copy_85 rfl ?_
              refine r_callV2 dX6_copy_87 lk_X6_310 (ly_sh hEc hq) rfl (Nat.le_of_ble_eq_true rfl) (sp_holds hEc hq hb' (c2.trans f54) (fun h2 => absurd ⟨h1, h2⟩ hh) (fun _ => ?_))
              refine r_if_ne (tgt := 96) dX6_copy_90 (by decide) (fun hqz => absurd (by decide) hqz) (fun _ => ?_)
              refine r_bipush (v := (-12)) dX6_copy_93 rfl ?_
              refine r_ireturn dX6_copy_95 rfl rfl ?_
              exact K
            · refine r_if_eq (tgt := 93) dX6_copy_78 (by decide) (fun _ => ?_) (fun hqz => absurd (by decide) hqz)
              refine r_bipush (v := (-12)) dX6_copy_93 rfl ?_
              refine r_ireturn dX6_copy_95 rfl rfl ?_
              exact K
          · skip
            refine qC.enter (by decide) (Nat.le_of_ble_eq_true rfl) ?_
            refine r_iload_n dX7_copy_0 rfl ?_
            refine r_callS1 dX7_copy_1 lk_X7_254 (Nat.le_of_ble_eq_true rfl) (iss_t hE hs ?_)
            refine r_if_eq (tgt := 14) dX7_copy_4 (by decide) (fun hqz => absurd hqz (by decide)) (fun _ => ?_)
            refine r_iload_n dX7_copy_7 rfl ?_
            refine r_callS1 dX7_copy_8 lk_X7_254 (Nat.le_of_ble_eq_true rfl) (iss_t hE hq ?_)
            refine r_if_ne (tgt := 17) dX7_copy_11 (by decide) (fun _ => ?_) (fun hqz => absurd hqz (by decide))
            refine r_aload_n dX7_copy_17 rfl ?_
            refine r_getR dX7_copy_18 fl_X7_63 (ly_38 hE) rfl ?_
            refine r_iload_n dX7_copy_21 rfl ?_
            refine r_ialdN dX7_copy_22 (ly_53 hE) (by omega) (by decide) ?_
            refine r_rw (y := S 53 s) (by rw [r53]) ?_
            refine r_iconst (v := (-1)) dX7_copy_23 rfl ?_
            refine r_icmp_eq (tgt := 37) dX7_copy_24 (by decide) (fun hqz => absurd hqz m2) (fun _ => ?_)
            refine r_aload_n dX7_copy_27 rfl ?_
            refine r_getR dX7_copy_28 fl_X7_63 (ly_38 hE) rfl ?_
            refine r_iload_n dX7_copy_31 rfl ?_
            refine r_ialdN dX7_copy_32 (ly_53 hE) (by omega) (by decide) ?_
            refine r_rw (y := S 53 q) (by rw [r53]) ?_
            refine r_iconst (v := (-1)) dX7_copy_33 rfl ?_
            refine r_icmp_ne (tgt := 40) dX7_copy_34 (by decide) (fun _ => ?_) (fun hqz => absurd hqz m3)
            refine r_aload_n dX7_copy_40 rfl ?_
            refine r_getR dX7_copy_41 fl_X7_63 (ly_38 hE) rfl ?_
            refine r_iload_n dX7_copy_44 rfl ?_
            refine r_ialdN dX7_copy_45 (ly_53 hE) (by omega) (by decide) ?_
            refine r_rw (y := S 53 s) (by rw [r53]) ?_
            refine r_aload_n dX7_copy_46 rfl ?_
            refine r_getR dX7_copy_47 fl_X7_63 (ly_38 hE) rfl ?_
            refine r_iload_n dX7_copy_50 rfl ?_
            refine r_ialdN dX7_copy_51 (ly_53 hE) (by omega) (by decide) ?_
            refine r_rw (y := S 53 q) (by rw [r53]) ?_
            refine r_icmp_eq (tgt := 58) dX7_copy_52 (by decide) (fun _ => ?_) (fun hqz => absurd t1 hqz)
            refine r_iload dX7_copy_58 rfl ?_
            refine r_if_lt (tgt := 99) dX7_copy_60 (by decide) (fun b60 => ?_) (fun b60 => ?_)
            · refine r_bipush (v := (-12)) dX7_copy_99 rfl ?_
              refine r_ireturn dX7_copy_101 rfl rfl ?_
              exact K
            · refine r_iload_n dX7_copy_63 rfl ?_
              refine r_if_lt (tgt := 99) dX7_copy_64 (by decide) (fun b64 => ?_) (fun b64 => ?_)
              · refine r_bipush (v := (-12)) dX7_copy_99 rfl ?_
                refine r_ireturn dX7_copy_101 rfl rfl ?_
                exact K
              · refine r_iload dX7_copy_67 rfl ?_
                refine r_if_lt (tgt := 99) dX7_copy_69 (by decide) (fun b69 => ?_) (fun b69 => ?_)
                · refine r_bipush (v := (-12)) dX7_copy_99 rfl ?_
                  refine r_ireturn dX7_copy_101 rfl rfl ?_
                  exact K
                · refine r_iload dX7_copy_72 rfl ?_
                  refine r_aload_n dX7_copy_74 rfl ?_
                  refine r_getR dX7_copy_75 fl_X7_66 (ly_38 hE) rfl ?_
                  refine r_iload_n dX7_copy_78 rfl ?_
                  refine r_ialdN dX7_copy_79 (ly_54 hE) (by omega) (by decide) ?_
                  refine r_rw (y := nI a) (by rw [r54]; exact e54) ?_
                  refine r_iload_n dX7_copy_80 rfl ?_
                  refine r_isub dX7_copy_81 ?_
                  refine r_icmp_gt (tgt := 99) dX7_copy_82 (by decide) (fun b82 => ?_) (fun b82 => ?_)
                  · refine r_bipush (v := (-12)) dX7_copy_99 rfl ?_
                    refine r_ireturn dX7_copy_101 rfl rfl ?_
                    exact K
                  · refine r_iload dX7_copy_85 rfl ?_
                    refine r_aload_n dX7_copy_87 rfl ?_
                    refine r_getR dX7_copy_88 fl_X7_66 (ly_38 hE) rfl ?_
                    refine r_iload_n dX7_copy_91 rfl ?_
                    refine r_ialdN dX7_copy_92 (ly_54 hE) (by omega) (by decide) ?_
                    refine r_rw (y := nI b) (by rw [r54]; exact f54) ?_
                    refine r_iload dX7_copy_93 rfl ?_
                    refine r_isub dX7_copy_95 ?_
                    refine r_icmp_le (tgt := 102) dX7_copy_96 (by decide) (fun hqz => absurd hqz (fun b96 => hh (hd_two ha hb' b60 b64 b69 b82 b96))) (fun _ => ?_)
                    refine r_bipush (v := (-12)) dX7_copy_99 rfl ?_
                    refine r_ireturn dX7_copy_101 rfl rfl ?_
                    exact K
      · refine sam (-13) (fun A L Ph hR K => ?_) (fun A L Ph hR r53 r54 K => ?_)
        · obtain ⟨a1, a2, a3⟩ := hR.2.2.2.2.2 s hs
          obtain ⟨c1, c2, c3⟩ := hR.2.2.2.2.2 q hq
          refine qC.enter (by decide) (Nat.le_of_ble_eq_true rfl) ?_
          refine r_iload_n dX6_copy_0 rfl ?_
          refine r_iconst (v := 4) dX6_copy_1 rfl ?_
          refine r_callS2 dX6_copy_2 lk_X6_100 (Nat.le_of_ble_eq_true rfl) (win_t (lim := 4) rfl (by decide) hs ?_)
          refine r_if_eq (tgt := 16) dX6_copy_5 (by decide) (fun hqz => absurd hqz (by decide)) (fun _ => ?_)
          refine r_iload_n dX6_copy_8 rfl ?_
          refine r_iconst (v := 4) dX6_copy_9 rfl ?_
          refine r_callS2 dX6_copy_10 lk_X6_100 (Nat.le_of_ble_eq_true rfl) (win_t (lim := 4) rfl (by decide) hq ?_)
          refine r_if_ne (tgt := 19) dX6_copy_13 (by decide) (fun _ => ?_) (fun hqz => absurd hqz (by decide))
          refine r_aload_n dX6_copy_19 rfl ?_
          refine r_getR dX6_copy_20 fl_X6_52 (ly_0 hEc) rfl ?_
          refine r_iload_n dX6_copy_23 rfl ?_
          refine r_aaldN dX6_copy_24 (ly_7 hEc) (show s < 4 by omega) (by decide) (ly_7r (by omega)) ?_
          refine r_astore (loc' := [(6, .ref (8 + s)), (0, .ref 0), (1, .int (nI s)), (2, .int iv), (3, .int (nI q)), (4, .int jv), (5, .int mv)]) dX6_copy_25 (by decide) rfl ?_
          refine r_aload_n dX6_copy_27 rfl ?_
          refine r_getR dX6_copy_28 fl_X6_52 (ly_0 hEc) rfl ?_
          refine r_iload_n dX6_copy_31 rfl ?_
          refine r_aaldN dX6_copy_32 (ly_7 hEc) (show q < 4 by omega) (by decide) (ly_7r (by omega)) ?_
          refine r_astore (loc' := [(7, .ref (8 + q)), (6, .ref (8 + s)), (0, .ref 0), (1, .int (nI s)), (2, .int iv), (3, .int (nI q)), (4, .int jv), (5, .int mv)]) dX6_copy_33 (by decide) rfl ?_
          refine r_aload dX6_copy_35 rfl ?_
          refine r_callV0 dX6_copy_37 lk_X6_246 (ly_sh hEc hs) rfl (Nat.le_of_ble_eq_true rfl) (mis_f hEc hs (by rw [a1]; exact m2) ?_)
          refine r_if_ne (tgt := 51) dX6_copy_40 (by decide) (fun hqz => absurd (by decide) hqz) (fun _ => ?_)
          refine r_aload dX6_copy_43 rfl ?_
          refine r_callV0 dX6_copy_45 lk_X6_246 (ly_sh hEc hq) rfl (Nat.le_of_ble_eq_true rfl) (mis_f hEc hq (by rw [c1]; exact m3) ?_)
          refine r_if_eq (tgt := 54) dX6_copy_48 (by decide) (fun _ => ?_) (fun hqz => absurd (by decide) hqz)
          refine r_aload dX6_copy_54 rfl ?_
          refine r_getI dX6_copy_56 fl_X6_307 (ly_sh hEc hs) rfl ?_
          refine r_aload dX6_copy_59 rfl ?_
          refine r_getI dX6_copy_61 fl_X6_307 (ly_sh hEc hq) rfl ?_
          refine r_icmp_eq (tgt := 70) dX6_copy_64 (by decide) (fun hqz => absurd hqz (by rw [a1, c1]; exact t1)) (fun _ => ?_)
          refine r_bipush (v := (-13)) dX6_copy_67 rfl ?_
          refine r_ireturn dX6_copy_69 rfl rfl ?_
          exact K
        · skip
          refine qC.enter (by decide) (Nat.le_of_ble_eq_true rfl) ?_
          refine r_iload_n dX7_copy_0 rfl ?_
          refine r_callS1 dX7_copy_1 lk_X7_254 (Nat.le_of_ble_eq_true rfl) (iss_t hE hs ?_)
          refine r_if_eq (tgt := 14) dX7_copy_4 (by decide) (fun hqz => absurd hqz (by decide)) (fun _ => ?_)
          refine r_iload_n dX7_copy_7 rfl ?_
          refine r_callS1 dX7_copy_8 lk_X7_254 (Nat.le_of_ble_eq_true rfl) (iss_t hE hq ?_)
          refine r_if_ne (tgt := 17) dX7_copy_11 (by decide) (fun _ => ?_) (fun hqz => absurd hqz (by decide))
          refine r_aload_n dX7_copy_17 rfl ?_
          refine r_getR dX7_copy_18 fl_X7_63 (ly_38 hE) rfl ?_
          refine r_iload_n dX7_copy_21 rfl ?_
          refine r_ialdN dX7_copy_22 (ly_53 hE) (by omega) (by decide) ?_
          refine r_rw (y := S 53 s) (by rw [r53]) ?_
          refine r_iconst (v := (-1)) dX7_copy_23 rfl ?_
          refine r_icmp_eq (tgt := 37) dX7_copy_24 (by decide) (fun hqz => absurd hqz m2) (fun _ => ?_)
          refine r_aload_n dX7_copy_27 rfl ?_
          refine r_getR dX7_copy_28 fl_X7_63 (ly_38 hE) rfl ?_
          refine r_iload_n dX7_copy_31 rfl ?_
          refine r_ialdN dX7_copy_32 (ly_53 hE) (by omega) (by decide) ?_
          refine r_rw (y := S 53 q) (by rw [r53]) ?_
          refine r_iconst (v := (-1)) dX7_copy_33 rfl ?_
          refine r_icmp_ne (tgt := 40) dX7_copy_34 (by decide) (fun _ => ?_) (fun hqz => absurd hqz m3)
          refine r_aload_n dX7_copy_40 rfl ?_
          refine r_getR dX7_copy_41 fl_X7_63 (ly_38 hE) rfl ?_
          refine r_iload_n dX7_copy_44 rfl ?_
          refine r_ialdN dX7_copy_45 (ly_53 hE) (by omega) (by decide) ?_
          refine r_rw (y := S 53 s) (by rw [r53]) ?_
          refine r_aload_n dX7_copy_46 rfl ?_
          refine r_getR dX7_copy_47 fl_X7_63 (ly_38 hE) rfl ?_
          refine r_iload_n dX7_copy_50 rfl ?_
          refine r_ialdN dX7_copy_51 (ly_53 hE) (by omega) (by decide) ?_
          refine r_rw (y := S 53 q) (by rw [r53]) ?_
          refine r_icmp_eq (tgt := 58) dX7_copy_52 (by decide) (fun hqz => absurd hqz t1) (fun _ => ?_)
          refine r_bipush (v := (-13)) dX7_copy_55 rfl ?_
          refine r_ireturn dX7_copy_57 rfl rfl ?_
          exact K
  · refine sam (-2) (fun A L Ph hR K => ?_) (fun A L Ph hR r53 r54 K => ?_)
    · skip
      refine qC.enter (by decide) (Nat.le_of_ble_eq_true rfl) ?_
      refine r_iload_n dX6_copy_0 rfl ?_
      refine r_iconst (v := 4) dX6_copy_1 rfl ?_
      refine r_callS2 dX6_copy_2 lk_X6_100 (Nat.le_of_ble_eq_true rfl) (sp_X6_within 4 rfl (by decide) (fun s hs es => ?_) (fun _ => ?_))
      · refine r_if_eq (tgt := 16) dX6_copy_5 (by decide) (fun hqz => absurd hqz (by decide)) (fun _ => ?_)
        refine r_iload_n dX6_copy_8 rfl ?_
        refine r_iconst (v := 4) dX6_copy_9 rfl ?_
        refine r_callS2 dX6_copy_10 lk_X6_100 (Nat.le_of_ble_eq_true rfl) (win_f 4 rfl (by decide) (fun q hq eq => hb ⟨⟨s, hs, es⟩, ⟨q, hq, eq⟩⟩) ?_)
        refine r_if_ne (tgt := 19) dX6_copy_13 (by decide) (fun hqz => absurd (by decide) hqz) (fun _ => ?_)
        refine r_bipush (v := (-2)) dX6_copy_16 rfl ?_
        refine r_ireturn dX6_copy_18 rfl rfl ?_
        exact K
      · refine r_if_eq (tgt := 16) dX6_copy_5 (by decide) (fun _ => ?_) (fun hqz => absurd (by decide) hqz)
        refine r_bipush (v := (-2)) dX6_copy_16 rfl ?_
        refine r_ireturn dX6_copy_18 rfl rfl ?_
        exact K
    · by_cases h1 : ∃ s, s < 4 ∧ sv = nI s
      · obtain ⟨s, hs, rfl⟩ := h1
        refine qC.enter (by decide) (Nat.le_of_ble_eq_true rfl) ?_
        refine r_iload_n dX7_copy_0 rfl ?_
        refine r_callS1 dX7_copy_1 lk_X7_254 (Nat.le_of_ble_eq_true rfl) (iss_t hE hs ?_)
        refine r_if_eq (tgt := 14) dX7_copy_4 (by decide) (fun hqz => absurd hqz (by decide)) (fun _ => ?_)
        refine r_iload_n dX7_copy_7 rfl ?_
        refine r_callS1 dX7_copy_8 lk_X7_254 (Nat.le_of_ble_eq_true rfl) (iss_f hE (fun q hq eq => hb ⟨⟨s, hs, rfl⟩, ⟨q, hq, eq⟩⟩) ?_)
        refine r_if_ne (tgt := 17) dX7_copy_11 (by decide) (fun hqz => absurd (by decide) hqz) (fun _ => ?_)
        refine r_bipush (v := (-2)) dX7_copy_14 rfl ?_
        refine r_ireturn dX7_copy_16 rfl rfl ?_
        exact K
      · skip
        refine qC.enter (by decide) (Nat.le_of_ble_eq_true rfl) ?_
        refine r_iload_n dX7_copy_0 rfl ?_
        refine r_callS1 dX7_copy_1 lk_X7_254 (Nat.le_of_ble_eq_true rfl) (iss_f hE (fun q hq eq => h1 ⟨q, hq, eq⟩) ?_)
        refine r_if_eq (tgt := 14) dX7_copy_4 (by decide) (fun _ => ?_) (fun hqz => absurd (by decide) hqz)
        refine r_bipush (v := (-2)) dX7_copy_14 rfl ?_
        refine r_ireturn dX7_copy_16 rfl rfl ?_
        exact K
end OPS12
