/-! the reference's text, and text -/
def MZ (A : mA) (f : Nat → Int32) (z T i : Nat) (out : List Int32) : Prop := MK A f z i ∧ A 38 8 = 0 ∧ A 38 11 = nI T ∧ A 38 12 = nI out.length ∧ (∀ j, j < out.length → A 42 (160 * T + j) = out.getD j 0) ∧ ∀ j, j < 72 → A 44 j = mNm j
theorem MZ.ms {A : mA} {f : Nat → Int32} {z T i : Nat} {out : List Int32} (h : MZ A f z T i out) : MS (s2 A 38 15 0) f z T i [] out := by
  obtain ⟨h1, h2, h3, h4, h5, h6⟩ := h
  exact ⟨h1.cg (by rw [s2_ne (by decide)]) (by rw [s2_nj (fun _ => by decide)]) (by rw [s2_nj (fun _ => by decide)]) (by rw [s2_nj (fun _ => by decide)]) (by rw [s2_nj (fun _ => by decide)]), by rw [s2_nj (fun _ => by decide)]; exact h2, by rw [s2_nj (fun _ => by decide)]; exact h3, by rw [s2_nj (fun _ => by decide)]; exact h4, s2_same, trivial, by rw [s2_ne (by decide)]; exact h5, by rw [s2_ne (by decide)]; exact h6⟩
theorem MS.mz {A : mA} {f : Nat → Int32} {z T i : Nat} {out : List Int32} (h : MS A f z T i [] out) : MZ A f z T i out := ⟨h.1, h.2.1, h.2.2.1, h.2.2.2.1, h.2.2.2.2.2.2.1, h.2.2.2.2.2.2.2⟩
theorem MZ.nx {A A' : mA} {f : Nat → Int32} {z T i i' : Nat} {out : List Int32} (h : MZ A f z T i out) (f1 : F8 [5, 6, 7] A A') (hk : MK A' f z i') : MZ A' f z T i' out := by
  obtain ⟨h1, h2, h3, h4, h5, h6⟩ := h
  exact ⟨hk, (f1.2 8 (by decide)).trans h2, (f1.2 11 (by decide)).trans h3, (f1.2 12 (by decide)).trans h4, by rw [f1.1 42 (by decide)]; exact h5, by rw [f1.1 44 (by decide)]; exact h6⟩
theorem MZ.e43 {A : mA} {f : Nat → Int32} {z T i j : Nat} {out : List Int32} {v : Int32} (h : MZ A f z T i out) : MZ (s2 A 43 j v) f z T i out := by
  obtain ⟨h1, h2, h3, h4, h5, h6⟩ := h
  exact ⟨h1.cg (by rw [s2_ne (by decide)]) (by rw [s2_ne (by decide)]) (by rw [s2_ne (by decide)]) (by rw [s2_ne (by decide)]) (by rw [s2_ne (by decide)]), by rw [s2_ne (by decide)]; exact h2, by rw [s2_ne (by decide)]; exact h3, by rw [s2_ne (by decide)]; exact h4, by rw [s2_ne (by decide)]; exact h5, by rw [s2_ne (by decide)]; exact h6⟩
def MG (T : Nat) (A A' : mA) : Prop := Fr [38, 42, 43, 45] A A' ∧ (∀ j, j < 160 * T → A' 42 j = A 42 j) ∧ (∀ j, j < 3 * T → A' 43 j = A 43 j) ∧ A' 38 2 = A 38 2 ∧ A' 38 4 = A 38 4 ∧ A' 38 11 = A 38 11
theorem MG.tr {T : Nat} {A B C : mA} (h1 : MG T A B) (h2 : MG T B C) : MG T A C := ⟨h1.1.tr h2.1, fun j hj => (h2.2.1 j hj).trans (h1.2.1 j hj), fun j hj => (h2.2.2.1 j hj).trans (h1.2.2.1 j hj), h2.2.2.2.1.trans h1.2.2.2.1, h2.2.2.2.2.1.trans h1.2.2.2.2.1, h2.2.2.2.2.2.trans h1.2.2.2.2.2⟩
theorem MG.rf {T : Nat} {A : mA} : MG T A A := ⟨Fr.rf, fun _ _ => rfl, fun _ _ => rfl, rfl, rfl, rfl⟩
theorem MF.mg {T : Nat} {A A' : mA} (h : MF T A A') : MG T A A' := ⟨h.1.mo (by decide), h.2.1, fun j _ => by rw [h.1 43 (by decide)], h.2.2.1, h.2.2.2.1, h.2.2.2.2⟩
theorem mg43 {T p : Nat} {A : mA} {v : Int32} : MG T A (s2 A 43 (3 * T + p) v) := ⟨Fr.s2 (by decide), fun j _ => by rw [s2_ne (by decide)], fun j hj => by rw [s2_nj (fun _ => by omega)], by rw [s2_ne (by decide)], by rw [s2_ne (by decide)], by rw [s2_ne (by decide)]⟩
section MTX
variable {E : mE} {d : Nat} {A : mA} {L : mJ} {Ph : mP} {f : Nat → Int32} {z T i : Nat} {out : List Int32}
set_option maxRecDepth 100000 in
set_option maxHeartbeats 1000000 in
theorem sp_isE (hE : hM E) (hz : z ≤ 160) (hf : ∀ j, j < z → ∃ b, b < 256 ∧ f j = nI b) (hT : T < 6) {F : Nat} (hF : 2600 ≤ F) (hi : i ≤ tE f z i) (ho : out.length ≤ i) (hs : MZ A f z T i out) (h0 : ∀ A' j, (pz (tk f z) (am f z) F 0 0 i = .inl j ∨ ∃ c, pz (tk f z) (am f z) F 0 0 i = .inr (j, c) ∧ ¬ tk f z j = 59) → MF T A A' → A' 38 6 = nI (tS f z j) → Ph (some (.int 0)) A' L) (h1 : ∀ A' j c, pz (tk f z) (am f z) F 0 0 i = .inr (j, c) → MF T A A' → MZ A' f z T j (out ++ c) → Ph (some (.int 1)) A' L) : qC E mm_X7_isE (d + 3) [.ref 38] A L Ph := by
  have h160 := (tE_le (f := f) hz i).1
  have f0 : MF T A (s2 A 38 15 0) := (F8.st (X := [15]) (by decide)).mf (by decide) (by decide) (by decide)
  refine qC.enter (by decide) (Nat.le_of_ble_eq_true rfl) ?_
  refine r_aload_n dX7_isE_0 rfl ?_
  refine r_iconst (v := 0) dX7_isE_1 rfl ?_
  refine r_putI dX7_isE_2 fl_X7_137 fp_7_15 (ly_38 hE) rfl rfl rfl ?_
  refine qG.pick [0] rfl ?_
  refine ((sim_all (d := d) hE hz hf hT F).1 0 i [] out _ L Ph hi (by rw [List.length_nil]; omega) rfl (by decide) (by decide) (fun y => absurd y (by decide)) (by omega) hs.ms ?_).1
  rcases rs_cases (pz (tk f z) (am f z) F 0 0 i) with ⟨j, e1⟩ | ⟨j, c, e1⟩
  · rw [e1]
    exact fun A' fa e => h0 A' j (Or.inl e1) (f0.tr fa) e
  · rw [e1]
    intro A' P out' fa sa ea hP hnj hq
    have pv := pzv hz hf (by decide) e1 hi
    have hv1 := (tE_le (f := f) hz j).1
    have hlen : out'.length + P.length = out.length + c.length := by rw [← List.length_append, ea, List.length_append]
    have hl : (P ++ []).length + out'.length ≤ 160 := by rw [List.append_nil]; omega
    have hse : seF 1 (P ++ []) out' = ([], out ++ c) := by rw [seF_all (by decide) hP (by decide), ea]
    by_cases h41 : tk f z j = 41
    · exact af_close0 hE hz hf hT hl sa h41 (by rw [hse]) (fun A2 f2 e2 => h0 A2 j (Or.inr ⟨c, e1, by rw [h41]; decide⟩) ((f0.tr fa).tr f2) e2)
    · by_cases hc : tk f z j = 60 ∨ tk f z j = 61
      · obtain ⟨t1, t2, t3, t4, t5⟩ := cmp_facts hc
        obtain ⟨P2, x, P3, eP, hP2, hx4⟩ := hq rfl hc
        have hse5 : seF 5 (P ++ []) out' = (x :: (P3 ++ []), out' ++ P2) := by
          rw [eP, List.append_assoc]
          exact seF_all (by decide) hP2 (show rkN x < 5 by omega)
        exact af_cmpx hE hz hf hT hl sa h41 t1 t3 t4 hse5 hx4 (fun A2 f2 e2 => h0 A2 j (Or.inr ⟨c, e1, by rcases hc with y | y <;> rw [y] <;> decide⟩) ((f0.tr fa).tr f2) e2)
      · exact af_end hE hz hf hT hl sa h41 (btw_0 hnj hc) (fun y => absurd (by rw [hse]) y) (fun _ A2 f2 s2 => h1 A2 j c e1 ((f0.tr fa).tr f2) (by rw [hse] at s2; exact MS.mz s2))
theorem wv_6 {f : Nat → Int32} {z i p : Nat} (hf : ∀ j, j < z → ∃ b, b < 256 ∧ f j = nI b) (hp : p < 3) : wv f z i = nI (6 + p) ↔ tk f z i = nI (6 + p) := by
  rcases wv_tk (i := i) hf with ⟨k, hk, ek, ew⟩ | ⟨ew, ek⟩
  · rw [ek, ew]
  · rw [ew]
    exact ⟨fun y => absurd y.symm (nI_nm1 (by omega)), fun y => absurd y (ek _ (by omega))⟩
set_option maxRecDepth 100000 in
set_option maxHeartbeats 1000000 in
theorem it_loop (hE : hM E) (hz : z ≤ 160) (hf : ∀ j, j < z → ∃ b, b < 256 ∧ f j = nI b) (hT : T < 6) {F : Nat} (hF : 2600 ≤ F) (hx : ∀ A' j, pT (tk f z) (am f z) F 3 0 0 [] [] = .inl j → MG T A A' → A' 38 6 = nI (tS f z j) → Ph (some (.int 0)) A' L) (hok : ∀ A' out es, pT (tk f z) (am f z) F 3 0 0 [] [] = .inr (out, es) → MG T A A' → (∀ j, j < out.length → A' 42 (160 * T + j) = out.getD j 0) → EN A' 43 T es → Ph (some (.int 1)) A' L) : ∀ (k p i : Nat) (out : List Int32) (es : List Nat) (A1 : mA), p + k = 3 → es.length = p → i ≤ tE f z i → out.length ≤ i → pT (tk f z) (am f z) F 3 0 0 [] [] = pT (tk f z) (am f z) F k p i out es → MG T A A1 → MZ A1 f z T i out → EN A1 43 T es → qG E mm_X7_isText (d + 4) 6 [(1, .int (nI p)), (0, .ref 38)] [] A1 L Ph := by
  intro k
  induction k with
  | zero =>
    intro p i out es A1 hp hes hi ho hpt fr ms en
    have hp : p = 3 := by omega
    subst hp
    by_cases ht : tk f z i = 301
    · rw [pT_0 ht] at hpt
      have h0 := (en_tk (i := i) hf).mpr ht
      refine r_iload_n dX7_isText_6 rfl ?_
      refine r_iconst (v := 3) dX7_isText_7 rfl ?_
      refine r_icmp_ge (tgt := 73) dX7_isText_8 (by decide) (fun _ => ?_) (fun hqz => absurd (nI_le (Nat.le_refl 3) (by decide)) hqz)
      refine r_aload_n dX7_isText_73 rfl ?_
      refine r_getI dX7_isText_74 fl_X7_131 (ly_38 hE) rfl ?_
      refine r_rw (y := 0) (by rw [ms.1.2.2.2.2, h0]; rfl) ?_
      refine r_if_ne (tgt := 84) dX7_isText_77 (by decide) (fun hqz => absurd (by decide) hqz) (fun _ => ?_)
      refine r_iconst (v := 1) dX7_isText_80 rfl ?_
      refine r_goto (tgt := 85) dX7_isText_81 (by decide) ?_
      refine r_ireturn dX7_isText_85 rfl (by decide) ?_
      exact hok A1 out es hpt fr ms.2.2.2.2.1 en
    · rw [pT_1 ht] at hpt
      have h0 : ¬ so f z (tS f z i) = 0 := fun y => ht ((en_tk (i := i) hf).mp y)
      have h4 := so_4 f z (tS f z i)
      refine r_iload_n dX7_isText_6 rfl ?_
      refine r_iconst (v := 3) dX7_isText_7 rfl ?_
      refine r_icmp_ge (tgt := 73) dX7_isText_8 (by decide) (fun _ => ?_) (fun hqz => absurd (nI_le (Nat.le_refl 3) (by decide)) hqz)
      refine r_aload_n dX7_isText_73 rfl ?_
      refine r_getI dX7_isText_74 fl_X7_131 (ly_38 hE) rfl ?_
      refine r_rw (y := nI (so f z (tS f z i))) ms.1.2.2.2.2 ?_
      refine r_if_ne (tgt := 84) dX7_isText_77 (by decide) (fun _ => ?_) (fun hqz => absurd hqz (fun y => h0 (nI_z (by omega) y)))
      refine r_iconst (v := 0) dX7_isText_84 rfl ?_
      refine r_ireturn dX7_isText_85 rfl (by decide) ?_
      exact hx A1 i hpt fr ms.1.2.2.2.1
  | succ k ih =>
    intro p i out es A1 hp hes hi ho hpt fr ms en
    have hp3 : p < 3 := by omega
    have h160 := (tE_le (f := f) hz i).1
    by_cases h1 : tk f z i = nI (6 + p)
    · have hv := vl_up hz hf hi (by rw [h1]; exact nI6 hp3)
      refine r_iload_n dX7_isText_6 rfl ?_
      refine r_iconst (v := 3) dX7_isText_7 rfl ?_
      refine r_icmp_ge (tgt := 73) dX7_isText_8 (by decide) (fun hqz => absurd hqz (nI_ge hp3 (by decide))) (fun _ => ?_)
      refine r_aload_n dX7_isText_11 rfl ?_
      refine r_callV0 dX7_isText_12 lk_X7_152 (ly_38 hE) rfl (Nat.le_of_ble_eq_true rfl) (sp_word hE hz ms.1 ms.2.2.2.2.2 ?_)
      refine r_bipush (v := 6) dX7_isText_15 rfl ?_
      refine r_iload_n dX7_isText_17 rfl ?_
      refine r_iadd dX7_isText_18 ?_
      refine r_rw (y := nI (6 + p)) (nI_add 6 p) ?_
      refine r_icmp_eq (tgt := 24) dX7_isText_19 (by decide) (fun _ => ?_) (fun hqz => absurd ((wv_6 hf hp3).mpr h1) hqz)
      refine r_aload_n dX7_isText_24 rfl ?_
      refine r_callV0 dX7_isText_25 lk_X7_167 (ly_38 hE) rfl (Nat.le_of_ble_eq_true rfl) (sp_next (i := i + 1) hE hz ms.1.1 ms.1.2.1 ms.1.2.2.1 (fun A2 f2 k2 => ?_))
      have m2 := ms.nx f2 k2
      have g2 : MG T A A2 := fr.tr ((f2.mf (by decide) (by decide) (by decide)).mg)
      refine r_aload_n dX7_isText_28 rfl ?_
      refine r_callV0 dX7_isText_29 lk_X7_176 (ly_38 hE) rfl (Nat.le_of_ble_eq_true rfl) (sp_isE hE hz hf hT hF hv.1 (by omega) m2 (fun A3 j hj f3 e3 => ?_) (fun A3 j c hj f3 m3 => ?_))
      · refine r_if_eq (tgt := 44) dX7_isText_32 (by decide) (fun _ => ?_) (fun hqz => absurd (by decide) hqz)
        refine r_iconst (v := 0) dX7_isText_44 rfl ?_
        refine r_ireturn dX7_isText_45 rfl (by decide) ?_
        first | exact hx A3 j (hpt.trans (by rcases hj with y | ⟨c, y, y2⟩; exact pT_3 h1 y; exact pT_4 h1 y y2)) (g2.tr f3.mg) e3 | exact hx A3 j (hpt.trans (pT_4 h1 hj q59)) (g2.tr f3.mg) m3.1.2.2.2.1
      · refine r_if_eq (tgt := 44) dX7_isText_32 (by decide) (fun hqz => absurd hqz (by decide)) (fun _ => ?_)
        refine r_aload_n dX7_isText_35 rfl ?_
        refine r_bipush (v := 59) dX7_isText_36 rfl ?_
        refine r_callV1 dX7_isText_38 lk_X7_155 (ly_38 hE) rfl (Nat.le_of_ble_eq_true rfl) (sp_isSign hE hz hf (b := 59) (by decide) rfl m3.1 (fun (q59 : tk f z j = 59) => ?_) (fun (q59 : ¬ tk f z j = 59) => ?_))
        · refine r_if_ne (tgt := 46) dX7_isText_41 (by decide) (fun _ => ?_) (fun hqz => absurd hqz (by decide))
          refine r_aload_n dX7_isText_46 rfl ?_
          refine r_getR dX7_isText_47 fl_X7_22 (ly_38 hE) rfl ?_
          refine r_iconst (v := 3) dX7_isText_50 rfl ?_
          refine r_aload_n dX7_isText_51 rfl ?_
          refine r_getI dX7_isText_52 fl_X7_29 (ly_38 hE) rfl ?_
          refine r_rw (y := nI T) m3.2.2.1 ?_
          refine r_imul dX7_isText_55 ?_
          refine r_iload_n dX7_isText_56 rfl ?_
          refine r_iadd dX7_isText_57 ?_
          refine r_rw (y := nI (3 * T + p)) (show nI 3 * nI T + nI p = _ by rw [pk_mul, nI_add]) ?_
          refine r_aload_n dX7_isText_58 rfl ?_
          refine r_getI dX7_isText_59 fl_X7_134 (ly_38 hE) rfl ?_
          refine r_rw (y := nI (out ++ c).length) m3.2.2.2.1 ?_
          refine r_iastN dX7_isText_62 (ly_43 hE) (by omega) (by decide) ?_
          have m4 := m3.e43 (j := 3 * T + p) (v := nI (out ++ c).length)
          have pv := pzv hz hf (by decide) hj hv.1
          have hv1 := (tE_le (f := f) hz j).1
          have hv2 := vl_up hz hf pv.1 (by rw [q59]; decide)
          have hlen : (out ++ c).length ≤ j := by rw [List.length_append]; omega
          refine r_aload_n dX7_isText_63 rfl ?_
          refine r_callV0 dX7_isText_64 lk_X7_167 (ly_38 hE) rfl (Nat.le_of_ble_eq_true rfl) (sp_next (i := j + 1) hE hz m4.1.1 m4.1.2.1 m4.1.2.2.1 (fun A4 f4 k4 => ?_))
          refine r_iinc (v := (nI (p + 1))) (loc' := [(1, .int (nI (p + 1))), (0, .ref 38)]) dX7_isText_67 rfl ((nI_succ _).symm) (by decide) rfl ?_
          refine r_goto (tgt := 6) dX7_isText_70 (by decide) ?_
          refine qG.pick [0, 1] rfl ?_
          have en2 := ((en.cf (f2.1 43 (by decide))).cf (f3.1 43 (by decide))).put (x := (out ++ c).length)
          rw [hes] at en2
          exact ih (p + 1) (j + 1) (out ++ c) (es ++ [(out ++ c).length]) A4 (by omega) (by rw [List.length_append, List.length_singleton]; omega) hv2.1 (by omega) (hpt.trans (pT_5 h1 hj q59)) (((g2.tr f3.mg).tr mg43).tr ((f4.mf (by decide) (by decide) (by decide)).mg)) (m4.nx f4 k4) (en2.cf (f4.1 43 (by decide)))
        · refine r_if_ne (tgt := 46) dX7_isText_41 (by decide) (fun hqz => absurd (by decide) hqz) (fun _ => ?_)
          refine r_iconst (v := 0) dX7_isText_44 rfl ?_
          refine r_ireturn dX7_isText_45 rfl (by decide) ?_
          first | exact hx A3 j (hpt.trans (by rcases hj with y | ⟨c, y, y2⟩; exact pT_3 h1 y; exact pT_4 h1 y y2)) (g2.tr f3.mg) e3 | exact hx A3 j (hpt.trans (pT_4 h1 hj q59)) (g2.tr f3.mg) m3.1.2.2.2.1
    · rw [pT_2 h1] at hpt
      refine r_iload_n dX7_isText_6 rfl ?_
      refine r_iconst (v := 3) dX7_isText_7 rfl ?_
      refine r_icmp_ge (tgt := 73) dX7_isText_8 (by decide) (fun hqz => absurd hqz (nI_ge hp3 (by decide))) (fun _ => ?_)
      refine r_aload_n dX7_isText_11 rfl ?_
      refine r_callV0 dX7_isText_12 lk_X7_152 (ly_38 hE) rfl (Nat.le_of_ble_eq_true rfl) (sp_word hE hz ms.1 ms.2.2.2.2.2 ?_)
      refine r_bipush (v := 6) dX7_isText_15 rfl ?_
      refine r_iload_n dX7_isText_17 rfl ?_
      refine r_iadd dX7_isText_18 ?_
      refine r_rw (y := nI (6 + p)) (nI_add 6 p) ?_
      refine r_icmp_eq (tgt := 24) dX7_isText_19 (by decide) (fun hqz => absurd hqz (fun y => h1 ((wv_6 hf hp3).mp y))) (fun _ => ?_)
      refine r_iconst (v := 0) dX7_isText_22 rfl ?_
      refine r_ireturn dX7_isText_23 rfl (by decide) ?_
      exact hx A1 i hpt fr ms.1.2.2.2.1
set_option maxRecDepth 100000 in
set_option maxHeartbeats 1000000 in
theorem sp_isText (hE : hM E) (hz : z ≤ 160) (hf : ∀ j, j < z → ∃ b, b < 256 ∧ f j = nI b) (hT : T < 6) {F : Nat} (hF : 2600 ≤ F) (h4 : A 38 4 = nI z) (h41 : ∀ j, j < z → A 41 j = f j) (h5 : A 38 5 = 0) (h8 : A 38 8 = 0) (h11 : A 38 11 = nI T) (h12 : A 38 12 = 0) (hn : ∀ j, j < 72 → A 44 j = mNm j) (hx : ∀ A' j, pT (tk f z) (am f z) F 3 0 0 [] [] = .inl j → MG T A A' → A' 38 6 = nI (tS f z j) → Ph (some (.int 0)) A' L) (hok : ∀ A' out es, pT (tk f z) (am f z) F 3 0 0 [] [] = .inr (out, es) → MG T A A' → (∀ j, j < out.length → A' 42 (160 * T + j) = out.getD j 0) → EN A' 43 T es → Ph (some (.int 1)) A' L) : qC E mm_X7_isText (d + 4) [.ref 38] A L Ph := by
  refine qC.enter (by decide) (Nat.le_of_ble_eq_true rfl) ?_
  refine r_aload_n dX7_isText_0 rfl ?_
  refine r_callV0 dX7_isText_1 lk_X7_167 (ly_38 hE) rfl (Nat.le_of_ble_eq_true rfl) (sp_next (i := 0) hE hz h4 h41 (by rw [h5]; rfl) (fun A2 f2 k2 => ?_))
  refine r_iconst (v := 0) dX7_isText_4 rfl ?_
  refine r_istore_n (loc' := [(1, .int 0), (0, .ref 38)]) dX7_isText_5 (by decide) rfl ?_
  refine qG.pick [0, 1] rfl ?_
  exact it_loop hE hz hf hT hF hx hok 3 0 0 [] [] A2 (by decide) rfl (Nat.zero_le _) (Nat.le_refl _) rfl ((f2.mf (by decide) (by decide) (by decide)).mg) ⟨k2, (f2.2 8 (by decide)).trans h8, (f2.2 11 (by decide)).trans h11, (f2.2 12 (by decide)).trans h12, fun j hj => absurd hj (Nat.not_lt_zero _), by rw [f2.1 44 (by decide)]; exact hn⟩ (fun q hq => absurd hq (Nat.not_lt_zero _))
end MTX
/-! what the state becomes -/
def txS (S : mA) (T : Nat) (out : List Int32) (es : List Nat) : mA := va_up (va_up (s2 (s2 S 38 4 0) 38 11 (nI (T + 1))) 42 (fun j => if 160 * T ≤ j then out.getD (j - 160 * T) 0 else S 42 j)) 43 (fun j => if 3 * T ≤ j then nI (es.getD (j - 3 * T) 0) else S 43 j)
theorem txS_k {S : mA} {T k : Nat} {out : List Int32} {es : List Nat} (h1 : k ≠ 38) (h2 : k ≠ 42) (h3 : k ≠ 43) : txS S T out es k = S k := by
  unfold txS
  rw [va_up_no h3, va_up_no h2, s2_ne h1, s2_ne h1]
theorem txS_42 {S : mA} {T : Nat} {out : List Int32} {es : List Nat} : txS S T out es 42 = fun j => if 160 * T ≤ j then out.getD (j - 160 * T) 0 else S 42 j := by
  unfold txS
  rw [va_up_no (by decide), va_up_eq]
theorem txS_43 {S : mA} {T : Nat} {out : List Int32} {es : List Nat} : txS S T out es 43 = fun j => if 3 * T ≤ j then nI (es.getD (j - 3 * T) 0) else S 43 j := by
  unfold txS
  rw [va_up_eq]
theorem txS_38 {S : mA} {T : Nat} {out : List Int32} {es : List Nat} : txS S T out es 38 2 = S 38 2 ∧ txS S T out es 38 4 = 0 ∧ txS S T out es 38 11 = nI (T + 1) := by
  unfold txS
  rw [va_up_no (by decide), va_up_no (by decide)]
  exact ⟨by rw [s2_nj (fun _ => by decide), s2_nj (fun _ => by decide)], by rw [s2_nj (fun _ => by decide), s2_same], s2_same⟩
theorem rok_cong {f g : Nat → Int32} {N : Nat} (h : ∀ i, i < N → f i = g i) : ∀ (n i m : Nat), i + n ≤ N → rok f i n m → rok g i n m := by
  intro n
  induction n with
  | zero => intro i m _ hr; exact hr
  | succ n ih =>
    intro i m hn hr
    obtain ⟨a, m', b, c⟩ := hr
    rw [h i (by omega)] at a b
    exact ⟨a, m', b, ih (i + 1) m' (by omega) c⟩
theorem WfN.mono {f : Nat → Int32} {T T' n : Nat} (h : WfN f T n) (hT : T ≤ T') : WfN f T' n := by
  obtain ⟨h1, h2, h3, ⟨r, hr, e⟩, h5, h6⟩ := h
  exact ⟨h1, h2, h3, ⟨r, by omega, e⟩, h5, h6⟩
theorem tx_old {S : mA} {T r : Nat} {out : List Int32} {es : List Nat} (hr : r < T) {e : Nat → Nat} (h : TXv S r e) : TXv (txS S T out es) r e := by
  obtain ⟨h1, h2, h3, h4, h5⟩ := h
  refine ⟨fun p hp => ?_, h2, h3, h4, fun p hp => ?_⟩
  · rw [txS_43]
    show (if 3 * T ≤ 3 * r + p then _ else S 43 (3 * r + p)) = _
    rw [if_neg (by omega)]
    exact h1 p hp
  · refine rok_cong (N := 160) (f := fun i => S 42 (160 * r + i)) (fun i hi => ?_) _ _ _ ?_ (h5 p hp)
    · rw [txS_42]
      show S 42 (160 * r + i) = if 160 * T ≤ 160 * r + i then _ else S 42 (160 * r + i)
      rw [if_neg (by omega)]
    · have := (TXv.le ⟨h1, h2, h3, h4, h5⟩ hp)
      omega
theorem getD_l {c c' : List Int32} {j : Nat} (h : j < c.length) : (c ++ c').getD j 0 = c.getD j 0 := by
  rw [List.getD_eq_getElem?_getD, List.getD_eq_getElem?_getD, List.getElem?_append_left h]
theorem getD_r {c c' : List Int32} {j : Nat} : (c ++ c').getD (c.length + j) 0 = c'.getD j 0 := by
  rw [List.getD_eq_getElem?_getD, List.getD_eq_getElem?_getD, List.getElem?_append_right (by omega), Nat.add_sub_cancel_left]
theorem txS_new {S : mA} {T i : Nat} {out : List Int32} {es : List Nat} : txS S T out es 42 (160 * T + i) = out.getD i 0 := by
  rw [txS_42]
  show (if 160 * T ≤ 160 * T + i then out.getD (160 * T + i - 160 * T) 0 else _) = _
  rw [if_pos (by omega), Nat.add_sub_cancel_left]
theorem tx_new {S : mA} {T : Nat} {c0 c1 c2 : List Int32} (t0 : tkn c0 0 1) (t1 : tkn c1 0 1) (t2 : tkn c2 0 1) (hl : (c0 ++ c1 ++ c2).length ≤ 160) : TXv (txS S T (c0 ++ c1 ++ c2) [c0.length, (c0 ++ c1).length, (c0 ++ c1 ++ c2).length]) T (fun p => if p = 0 then c0.length else if p = 1 then (c0 ++ c1).length else (c0 ++ c1 ++ c2).length) := by
  have l1 : (c0 ++ c1).length = c0.length + c1.length := List.length_append
  have l2 : (c0 ++ c1 ++ c2).length = c0.length + c1.length + c2.length := by rw [List.length_append, l1]
  refine ⟨fun p hp => ?_, by show c0.length ≤ (c0 ++ c1).length; omega, by show (c0 ++ c1).length ≤ (c0 ++ c1 ++ c2).length; omega, hl, fun p hp => ?_⟩
  · rw [txS_43]
    show (if 3 * T ≤ 3 * T + p then nI (([c0.length, (c0 ++ c1).length, (c0 ++ c1 ++ c2).length] : List Nat).getD (3 * T + p - 3 * T) 0) else _) = _
    rw [if_pos (by omega), Nat.add_sub_cancel_left]
    rcases (show p = 0 ∨ p = 1 ∨ p = 2 by omega) with rfl | rfl | rfl <;> rfl
  · rcases (show p = 0 ∨ p = 1 ∨ p = 2 by omega) with rfl | rfl | rfl
    · show rok _ 0 (c0.length - 0) 0
      rw [Nat.sub_zero]
      refine rok_of t0 (fun j hj => ?_)
      rw [txS_new, Nat.zero_add, List.append_assoc, getD_l hj]
    · show rok _ c0.length ((c0 ++ c1).length - c0.length) 0
      rw [l1, Nat.add_sub_cancel_left]
      refine rok_of t1 (fun j hj => ?_)
      rw [txS_new, List.append_assoc, getD_r, getD_l hj]
    · show rok _ (c0 ++ c1).length ((c0 ++ c1 ++ c2).length - (c0 ++ c1).length) 0
      rw [l2, l1, Nat.add_sub_cancel_left]
      refine rok_of t2 (fun j hj => ?_)
      rw [txS_new, ← l1, getD_r]
theorem WfS.txt {S : mA} {T n z : Nat} (h : WfS S T n z) (hT : T < 6) {out : List Int32} {es : List Nat} (hn : ∃ e, TXv (txS S T out es) T e) : WfS (txS S T out es) (T + 1) n 0 := by
  obtain ⟨h1, h2, h3, h4, h5, h6, h7, h8⟩ := h
  refine ⟨by omega, by omega, txS_38.2.2, fun r hr => ?_, ?_, ?_, ?_, ?_⟩
  · rcases Nat.lt_or_ge r T with q | q
    · obtain ⟨e, he⟩ := h4 r q
      exact ⟨e, tx_old q he⟩
    · rw [show r = T by omega]; exact hn
  · rw [txS_k (by decide) (by decide) (by decide)]; exact h5.mono (by omega)
  · rw [txS_38.1, txS_k (by decide) (by decide) (by decide)]
    rcases h6 with q | ⟨q, n', hn'⟩
    · exact Or.inl q
    · exact Or.inr ⟨q, n', hn'.mono (by omega)⟩
  · exact ⟨by omega, txS_38.2.1, fun i hi => absurd hi (Nat.not_lt_zero _)⟩
  · rw [txS_k (by decide) (by decide) (by decide), txS_k (by decide) (by decide) (by decide)]; exact h8
theorem WfS.tx0 {S : mA} {T n z : Nat} (h : WfS S T n z) : WfS (s2 S 38 4 0) T n 0 := by
  obtain ⟨h1, h2, h3, h4, h5, h6, h7, h8⟩ := h
  refine ⟨h1, h2, by rw [s2_nj (fun _ => by decide)]; exact h3, fun r hr => ?_, by rw [s2_ne (by decide)]; exact h5, by rw [s2_nj (fun _ => by decide), s2_ne (by decide)]; exact h6, ⟨by omega, s2_same, fun i hi => absurd hi (Nat.not_lt_zero _)⟩, by rw [s2_ne (by decide), s2_ne (by decide)]; exact h8⟩
  obtain ⟨e, he⟩ := h4 r hr
  exact ⟨e, he.now (s2_ne (by decide)) (s2_ne (by decide))⟩
theorem pe_le {S : mA} {T n z r : Nat} (h : WfS S T n z) (hr : r < T) : pe S r 2 ≤ 160 := by
  obtain ⟨e, he⟩ := h.2.2.2.1 r hr
  rw [TXv_pe he (by decide)]
  exact he.2.2.2.1
theorem RC.tx0 {A A' S : mA} {T n z : Nat} (h : RC A S T n z) (hW : WfS S T n z) (hg : CG T A A') (h42 : A' 4 2 = 0) : RC A' (s2 S 38 4 0) T n 0 := by
  obtain ⟨h1, h2, h3, h4, h5, h6⟩ := h
  have g := hg.1
  refine ⟨?_, by rw [g 0 (by decide), s2_nj (fun _ => by decide)]; exact h2, ?_, ?_, ⟨by rw [h42, s2_same], fun i hi => absurd hi (Nat.not_lt_zero _)⟩, ?_⟩
  · rw [s2_ne (by decide)]
    exact h1.fr (g _ (by decide)) (g _ (by decide)) (g _ (by decide)) (g _ (by decide)) (g _ (by decide)) (g _ (by decide))
  · rw [s2_nj (fun _ => by decide), s2_ne (by decide)]
    exact fun a n' b c => (h3 a n' b c).fr (g _ (by decide)) (g _ (by decide)) (g _ (by decide)) (g _ (by decide)) (g _ (by decide)) (g _ (by decide))
  · refine ⟨?_, fun i hi => ?_, fun r i hr hi => ?_⟩
    · rw [hg.2.2.2, s2_nj (fun _ => by decide)]; exact h4.1
    · rw [hg.2.2.1 i hi, s2_ne (by decide)]; exact h4.2.1 i hi
    · have hi : i < pe S r 2 := by unfold pe at *; rw [s2_ne (by decide)] at hi; exact hi
      have := pe_le hW hr
      rw [hg.2.1 _ (by omega), s2_ne (by decide)]
      exact h4.2.2 r i hr hi
  · intro s hs
    rw [s2_ne (by decide), s2_ne (by decide), s2_ne (by decide), g (8 + s) (by simp; omega), g (34 + s) (by simp; omega)]
    exact h6 s hs
theorem RM.tx0 {A A' S : mA} {T n z : Nat} (h : RM A S T) (hW : WfS S T n z) (hg : MG T A A') : RM (s2 A' 38 4 0) (s2 S 38 4 0) T := by
  obtain ⟨h1, h2, h3, h4, h5, h6, h7, h8, h9, h10, h11, h12, h13⟩ := h
  have g := hg.1
  refine ⟨by rw [s2_ne (by decide), s2_ne (by decide), g 39 (by decide)]; exact h1, by rw [s2_ne (by decide), s2_ne (by decide), g 40 (by decide)]; exact h2, by rw [s2_nj (fun _ => by decide), s2_nj (fun _ => by decide), hg.2.2.2.1]; exact h3, by rw [s2_same, s2_same], by rw [s2_nj (fun _ => by decide), s2_nj (fun _ => by decide), hg.2.2.2.2.2]; exact h5, by rw [s2_ne (by decide), s2_ne (by decide), g 41 (by decide)]; exact h6, fun r i hr hi => ?_, fun i hi => by rw [s2_ne (by decide), s2_ne (by decide), hg.2.2.1 i hi]; exact h8 i hi, by rw [s2_ne (by decide), s2_ne (by decide), g 53 (by decide)]; exact h9, by rw [s2_ne (by decide), s2_ne (by decide), g 54 (by decide)]; exact h10, by rw [s2_ne (by decide), s2_ne (by decide), g 55 (by decide)]; exact h11, by rw [s2_ne (by decide), g 44 (by decide)]; exact h12, by rw [s2_ne (by decide), g 57 (by decide)]; exact h13⟩
  have hi : i < pe S r 2 := by unfold pe at *; rw [s2_ne (by decide)] at hi; exact hi
  have := pe_le hW hr
  rw [s2_ne (by decide), s2_ne (by decide), hg.2.1 _ (by omega)]
  exact h7 r i hr hi
theorem pe_tx {S : mA} {T r : Nat} {out : List Int32} {es : List Nat} (hr : r < T) : pe (txS S T out es) r 2 = pe S r 2 := by
  unfold pe
  rw [txS_43]
  show (if 3 * T ≤ 3 * r + 2 then _ else S 43 (3 * r + 2)).toNatClampNeg = _
  rw [if_neg (by omega)]
theorem pe_tn {S : mA} {T a b c : Nat} {out : List Int32} (hc : c ≤ 160) : pe (txS S T out [a, b, c]) T 2 = c := by
  unfold pe
  rw [txS_43]
  show (if 3 * T ≤ 3 * T + 2 then nI (([a, b, c] : List Nat).getD (3 * T + 2 - 3 * T) 0) else _).toNatClampNeg = _
  rw [if_pos (by omega), Nat.add_sub_cancel_left]
  exact nI_clamp (n := c) (by omega)
theorem en_tx {A' S : mA} {k T a b c i : Nat} {out : List Int32} (en : EN A' k T [a, b, c]) (hi : i < 3 * (T + 1)) (h : i < 3 * T → A' k i = S 43 i) : A' k i = txS S T out [a, b, c] 43 i := by
  rw [txS_43]
  show _ = if 3 * T ≤ i then nI (([a, b, c] : List Nat).getD (i - 3 * T) 0) else S 43 i
  rcases Nat.lt_or_ge i (3 * T) with q | q
  · rw [if_neg (by omega)]; exact h q
  · rw [if_pos q]
    have := en (i - 3 * T) (show i - 3 * T < 3 by omega)
    rw [show 3 * T + (i - 3 * T) = i by omega] at this
    exact this
theorem RC.txt {A A' S : mA} {T n z a b : Nat} {out : List Int32} (h : RC A S T n z) (hW : WfS S T n z) (hl : out.length ≤ 160) (hg : CG T A A') (h42 : A' 4 2 = 0) (hc : ∀ j, j < out.length → A' 22 (160 * T + j) = enc (out.getD j 0)) (en : EN A' 23 T [a, b, out.length]) : RC (s2 A' 3 4 (nI (T + 1))) (txS S T out [a, b, out.length]) (T + 1) n 0 := by
  obtain ⟨h1, h2, h3, h4, h5, h6⟩ := h
  have g : ∀ k, k ∉ [3, 4, 22, 23] → s2 A' 3 4 (nI (T + 1)) k = A k := fun k hk => by rw [s2_ne (fun e => hk (by rw [e]; decide))]; exact hg.1 k hk
  refine ⟨?_, by rw [g 0 (by decide), txS_38.1]; exact h2, ?_, ?_, ⟨by rw [s2_ne (by decide), h42, txS_38.2.1], fun i hi => absurd hi (Nat.not_lt_zero _)⟩, ?_⟩
  · rw [txS_k (by decide) (by decide) (by decide)]
    exact h1.fr (g _ (by decide)) (g _ (by decide)) (g _ (by decide)) (g _ (by decide)) (g _ (by decide)) (g _ (by decide))
  · rw [txS_38.1, txS_k (by decide) (by decide) (by decide)]
    exact fun a n' b c => (h3 a n' b c).fr (g _ (by decide)) (g _ (by decide)) (g _ (by decide)) (g _ (by decide)) (g _ (by decide)) (g _ (by decide))
  · refine ⟨by rw [s2_same, txS_38.2.2], fun i hi => ?_, fun r i hr hi => ?_⟩
    · rw [s2_ne (by decide)]
      exact en_tx en hi (fun q => (hg.2.2.1 i q).trans (h4.2.1 i q))
    · rw [s2_ne (by decide), txS_42]
      show _ = enc (if 160 * T ≤ 160 * r + i then out.getD (160 * r + i - 160 * T) 0 else S 42 (160 * r + i))
      rcases Nat.lt_or_ge r T with q | q
      · rw [pe_tx q] at hi
        have := pe_le hW q
        rw [if_neg (by omega), hg.2.1 _ (by omega)]
        exact h4.2.2 r i q hi
      · have : r = T := by omega
        subst this
        rw [pe_tn hl] at hi
        rw [if_pos (by omega), Nat.add_sub_cancel_left]
        exact hc i hi
  · intro s hs
    rw [txS_k (by decide) (by decide) (by decide), txS_k (by decide) (by decide) (by decide), txS_k (by decide) (by decide) (by decide), g (8 + s) (by simp; omega), g (34 + s) (by simp; omega)]
    exact h6 s hs
theorem RM.txt {A A' S : mA} {T n z a b : Nat} {out : List Int32} (h : RM A S T) (hW : WfS S T n z) (hl : out.length ≤ 160) (hg : MG T A A') (hc : ∀ j, j < out.length → A' 42 (160 * T + j) = out.getD j 0) (en : EN A' 43 T [a, b, out.length]) : RM (s2 (s2 A' 38 4 0) 38 11 (nI (T + 1))) (txS S T out [a, b, out.length]) (T + 1) := by
  obtain ⟨h1, h2, h3, h4, h5, h6, h7, h8, h9, h10, h11, h12, h13⟩ := h
  have e : ∀ k, k ≠ 38 → s2 (s2 A' 38 4 0) 38 11 (nI (T + 1)) k = A' k := fun k hk => by rw [s2_ne hk, s2_ne hk]
  have g := hg.1
  refine ⟨by rw [e _ (by decide), txS_k (by decide) (by decide) (by decide), g 39 (by decide)]; exact h1, by rw [e _ (by decide), txS_k (by decide) (by decide) (by decide), g 40 (by decide)]; exact h2, by rw [s2_nj (fun _ => by decide), s2_nj (fun _ => by decide), txS_38.1, hg.2.2.2.1]; exact h3, by rw [s2_nj (fun _ => by decide), s2_same, txS_38.2.1], by rw [s2_same, txS_38.2.2], by rw [e _ (by decide), txS_k (by decide) (by decide) (by decide), g 41 (by decide)]; exact h6, fun r i hr hi => ?_, fun i hi => ?_, by rw [e _ (by decide), txS_k (by decide) (by decide) (by decide), g 53 (by decide)]; exact h9, by rw [e _ (by decide), txS_k (by decide) (by decide) (by decide), g 54 (by decide)]; exact h10, by rw [e _ (by decide), txS_k (by decide) (by decide) (by decide), g 55 (by decide)]; exact h11, by rw [e _ (by decide), g 44 (by decide)]; exact h12, by rw [e _ (by decide), g 57 (by decide)]; exact h13⟩
  · rw [e _ (by decide), txS_42]
    show _ = if 160 * T ≤ 160 * r + i then out.getD (160 * r + i - 160 * T) 0 else S 42 (160 * r + i)
    rcases Nat.lt_or_ge r T with q | q
    · rw [pe_tx q] at hi
      have := pe_le hW q
      rw [if_neg (by omega), hg.2.1 _ (by omega)]
      exact h7 r i q hi
    · have : r = T := by omega
      subst this
      rw [pe_tn hl] at hi
      rw [if_pos (by omega), Nat.add_sub_cancel_left]
      exact hc i hi
  · rw [e _ (by decide)]
    exact en_tx en hi (fun q => (hg.2.2.1 i q).trans (h8 i q))
section OPTXT
variable {E : mE} {d : Nat} {S : mA} {T n z : Nat}
set_option maxRecDepth 100000 in
set_option maxHeartbeats 1000000 in
theorem op_text (hE : hM E) (hW : WfS S T n z) : OpOK E (d + 91) mm_X6_text mm_X7_text [] S T n z := by
  have hEc := hE.c
  have hN := hW.2.2.2.2.1
  have hn := hN.1
  have h60 := hN.2.1
  have hT := hW.2.1
  have hz160 := hW.2.2.2.2.2.2.1.1
  have hf := hW.2.2.2.2.2.2.1.2.2
  rcases Nat.eq_or_lt_of_le hT with e6 | hT6
  · refine ⟨.int (-4), S, T, n, z, ⟨_, rfl⟩, hW, fun A L Ph hR hk => ?_, fun A L Ph hR hk => ?_⟩
    · have K := hk A L hR (fun _ _ => rfl)
      refine qC.enter (by decide) (Nat.le_of_ble_eq_true rfl) ?_
      refine r_aload_n dX6_text_0 rfl ?_
      refine r_getR dX6_text_1 fl_X6_22 (ly_0 hEc) rfl ?_
      refine r_getI dX6_text_4 fl_X6_145 (ly_3 hEc) rfl ?_
      refine r_rw (y := 6) (by rw [hR.2.2.2.1.1, hW.2.2.1, e6]; rfl) ?_
      refine r_bipush (v := 6) dX6_text_7 rfl ?_
      refine r_icmp_lt (tgt := 15) dX6_text_9 (by decide) (fun hqz => absurd hqz (by decide)) (fun _ => ?_)
      refine r_bipush (v := (-4)) dX6_text_12 rfl ?_
      refine r_ireturn dX6_text_14 rfl rfl ?_
      exact K
    · have K := hk A L hR (fun _ _ => rfl)
      refine qC.enter (by decide) (Nat.le_of_ble_eq_true rfl) ?_
      refine r_aload_n dX7_text_0 rfl ?_
      refine r_getI dX7_text_1 fl_X7_29 (ly_38 hE) rfl ?_
      refine r_rw (y := 6) (by rw [hR.2.2.2.2.1, hW.2.2.1, e6]; rfl) ?_
      refine r_bipush (v := 6) dX7_text_4 rfl ?_
      refine r_icmp_ne (tgt := 12) dX7_text_6 (by decide) (fun hqz => absurd (by decide) hqz) (fun _ => ?_)
      refine r_bipush (v := (-4)) dX7_text_9 rfl ?_
      refine r_ireturn dX7_text_11 rfl rfl ?_
      exact K
  · obtain ⟨F, hF⟩ : ∃ F : Nat, 2600 ≤ F := ⟨2600, Nat.le_refl _⟩
    have hgl : ∀ (A A' : mA), CG T A A' → ∀ k, 38 ≤ k → A' k = A k := fun A A' g => Fr.hi g.1 (by decide)
    have hml : ∀ (A A' : mA), MG T A A' → ∀ k, k < 38 → A' k = A k := fun A A' g => Fr.lo g.1 (by decide)
    rcases hpt : pT (tk (S 41) z) (am (S 41) z) F 3 0 0 [] [] with j | ⟨out, es⟩
    · have htS := (tE_le (f := S 41) hz160 j).2.2
      refine ⟨.int (-100 - nI (tS (S 41) z j)), s2 S 38 4 0, T, n, 0, ⟨_, rfl⟩, hW.tx0, fun A L Ph hR hk => ?_, fun A L Ph hR hk => ?_⟩
      · skip
        refine qC.enter (by decide) (Nat.le_of_ble_eq_true rfl) ?_
        refine r_aload_n dX6_text_0 rfl ?_
        refine r_getR dX6_text_1 fl_X6_22 (ly_0 hEc) rfl ?_
        refine r_getI dX6_text_4 fl_X6_145 (ly_3 hEc) rfl ?_
        refine r_rw (y := nI T) (hR.2.2.2.1.1.trans hW.2.2.1) ?_
        refine r_bipush (v := 6) dX6_text_7 rfl ?_
        refine r_icmp_lt (tgt := 15) dX6_text_9 (by decide) (fun _ => ?_) (fun hqz => absurd (nI_lt hT6 (by decide)) hqz)
        refine r_aload_n dX6_text_15 rfl ?_
        refine r_getR dX6_text_16 fl_X6_31 (ly_0 hEc) rfl ?_
        refine r_callV0 dX6_text_19 lk_X6_72 (ly_4 hEc) rfl (Nat.le_of_ble_eq_true rfl) (sp_read (f := S 41) (z := z) hEc hz160 hf hT6 hF (hR.2.2.2.2.1.1.trans hW.2.2.2.2.2.2.1.2.1) (fun j hj => hR.2.2.2.2.1.2 j hj) (hR.2.2.2.1.1.trans hW.2.2.1) (fun A' j' hj' g e => ?_) (fun A' out es hj' => absurd (hpt.symm.trans hj') (fun y => by cases y)))
        have ej : j = j' := by have := hpt.symm.trans hj'; cases this; rfl
        subst ej
        refine r_istore_n (loc' := [(1, .int (nI (tS (S 41) z j))), (0, .ref 0)]) dX6_text_22 (by decide) rfl ?_
        refine r_iload_n dX6_text_23 rfl ?_
        refine r_iconst (v := (-1)) dX6_text_24 rfl ?_
        refine r_icmp_ne (tgt := 38) dX6_text_25 (by decide) (fun _ => ?_) (fun hqz => absurd hqz (nI_nm1 (by omega)))
        refine r_bipush (v := (-100)) dX6_text_38 rfl ?_
        refine r_iload_n dX6_text_40 rfl ?_
        refine r_isub dX6_text_41 ?_
        refine r_ireturn dX6_text_42 rfl rfl ?_
        exact hk A' L (hR.tx0 hW g e) (hgl _ _ g)
      · skip
        refine qC.enter (by decide) (Nat.le_of_ble_eq_true rfl) ?_
        refine r_aload_n dX7_text_0 rfl ?_
        refine r_getI dX7_text_1 fl_X7_29 (ly_38 hE) rfl ?_
        refine r_rw (y := nI T) (hR.2.2.2.2.1.trans hW.2.2.1) ?_
        refine r_bipush (v := 6) dX7_text_4 rfl ?_
        refine r_icmp_ne (tgt := 12) dX7_text_6 (by decide) (fun _ => ?_) (fun hqz => absurd hqz (fun y => by have := (nI_eq (b := 6) (by omega) (by decide)).mp y; omega))
        refine r_aload_n dX7_text_12 rfl ?_
        refine r_iconst (v := 0) dX7_text_13 rfl ?_
        refine r_putI dX7_text_14 fl_X7_122 fp_7_5 (ly_38 hE) rfl rfl rfl ?_
        refine r_aload_n dX7_text_17 rfl ?_
        refine r_iconst (v := 0) dX7_text_18 rfl ?_
        refine r_putI dX7_text_19 fl_X7_149 fp_7_8 (ly_38 hE) rfl rfl rfl ?_
        refine r_aload_n dX7_text_22 rfl ?_
        refine r_iconst (v := 0) dX7_text_23 rfl ?_
        refine r_putI dX7_text_24 fl_X7_134 fp_7_12 (ly_38 hE) rfl rfl rfl ?_
        have g0 : MG T A (s2 (s2 (s2 A 38 5 0) 38 8 0) 38 12 0) := ((((F8.st (X := [5]) (by decide)).mf (by decide) (by decide) (by decide)).tr ((F8.st (X := [8]) (by decide)).mf (by decide) (by decide) (by decide))).tr ((F8.st (X := [12]) (by decide)).mf (by decide) (by decide) (by decide))).mg
        refine r_aload_n dX7_text_27 rfl ?_
        refine r_callV0 dX7_text_28 lk_X7_180 (ly_38 hE) rfl (Nat.le_of_ble_eq_true rfl) (sp_isText (f := S 41) (z := z) hE hz160 hf hT6 hF (by rw [s2_nj (fun _ => by decide), s2_nj (fun _ => by decide), s2_nj (fun _ => by decide)]; exact hR.2.2.2.1.trans hW.2.2.2.2.2.2.1.2.1) (fun j hj => by rw [s2_ne (by decide), s2_ne (by decide), s2_ne (by decide), hR.2.2.2.2.2.1]) (by rw [s2_nj (fun _ => by decide), s2_nj (fun _ => by decide), s2_same]) (by rw [s2_nj (fun _ => by decide), s2_same]) (by rw [s2_nj (fun _ => by decide), s2_nj (fun _ => by decide), s2_nj (fun _ => by decide)]; exact hR.2.2.2.2.1.trans hW.2.2.1) s2_same (fun j hj => by rw [s2_ne (by decide), s2_ne (by decide), s2_ne (by decide)]; exact hR.2.2.2.2.2.2.2.2.2.2.2.1 j hj) (fun A' j' hj' g e => ?_) (fun A' out es hj' => absurd (hpt.symm.trans hj') (fun y => by cases y)))
        have ej : j = j' := by have := hpt.symm.trans hj'; cases this; rfl
        subst ej
        refine r_istore_n (loc' := [(1, .int 0), (0, .ref 38)]) dX7_text_31 (by decide) rfl ?_
        refine r_aload_n dX7_text_32 rfl ?_
        refine r_iconst (v := 0) dX7_text_33 rfl ?_
        refine r_putI dX7_text_34 fl_X7_119 fp_7_4 (ly_38 hE) rfl rfl rfl ?_
        refine r_iload_n dX7_text_37 rfl ?_
        refine r_if_ne (tgt := 49) dX7_text_38 (by decide) (fun hqz => absurd (by decide) hqz) (fun _ => ?_)
        refine r_bipush (v := (-100)) dX7_text_41 rfl ?_
        refine r_aload_n dX7_text_43 rfl ?_
        refine r_getI dX7_text_44 fl_X7_125 (ly_38 hE) rfl ?_
        refine r_rw (y := nI (tS (S 41) z j)) (by rw [s2_nj (fun _ => by decide)]; exact e) ?_
        refine r_isub dX7_text_47 ?_
        refine r_ireturn dX7_text_48 rfl rfl ?_
        exact hk _ L (hR.tx0 hW (g0.tr g)) (fun k hk1 => by rw [s2_ne (by omega)]; exact hml _ _ (g0.tr g) k hk1)
    · obtain ⟨c0, c1, c2, eo, ee, t0, t1, t2, hl⟩ := pT_ok hz160 hf hpt
      rw [← eo] at ee
      have hnew : ∃ e, TXv (txS S T out es) T e := by
        have := tx_new (S := S) (T := T) t0 t1 t2 (by rw [← eo]; exact hl)
        rw [← eo, ← ee] at this
        exact ⟨_, this⟩
      refine ⟨.int (nI T), txS S T out es, T + 1, n, 0, ⟨_, rfl⟩, hW.txt hT6 hnew, fun A L Ph hR hk => ?_, fun A L Ph hR hk => ?_⟩
      · skip
        refine qC.enter (by decide) (Nat.le_of_ble_eq_true rfl) ?_
        refine r_aload_n dX6_text_0 rfl ?_
        refine r_getR dX6_text_1 fl_X6_22 (ly_0 hEc) rfl ?_
        refine r_getI dX6_text_4 fl_X6_145 (ly_3 hEc) rfl ?_
        refine r_rw (y := nI T) (hR.2.2.2.1.1.trans hW.2.2.1) ?_
        refine r_bipush (v := 6) dX6_text_7 rfl ?_
        refine r_icmp_lt (tgt := 15) dX6_text_9 (by decide) (fun _ => ?_) (fun hqz => absurd (nI_lt hT6 (by decide)) hqz)
        refine r_aload_n dX6_text_15 rfl ?_
        refine r_getR dX6_text_16 fl_X6_31 (ly_0 hEc) rfl ?_
        refine r_callV0 dX6_text_19 lk_X6_72 (ly_4 hEc) rfl (Nat.le_of_ble_eq_true rfl) (sp_read (f := S 41) (z := z) hEc hz160 hf hT6 hF (hR.2.2.2.2.1.1.trans hW.2.2.2.2.2.2.1.2.1) (fun j hj => hR.2.2.2.2.1.2 j hj) (hR.2.2.2.1.1.trans hW.2.2.1) (fun A' j' hj' => absurd (hpt.symm.trans hj') (fun y => by cases y)) (fun A' out' es' hj' g e hc en => ?_))
        have ej : out = out' ∧ es = es' := by have := hpt.symm.trans hj'; cases this; exact ⟨rfl, rfl⟩
        obtain ⟨rfl, rfl⟩ := ej
        refine r_istore_n (loc' := [(1, .int (-1)), (0, .ref 0)]) dX6_text_22 (by decide) rfl ?_
        refine r_iload_n dX6_text_23 rfl ?_
        refine r_iconst (v := (-1)) dX6_text_24 rfl ?_
        refine r_icmp_ne (tgt := 38) dX6_text_25 (by decide) (fun hqz => absurd (by decide) hqz) (fun _ => ?_)
        refine r_aload_n dX6_text_28 rfl ?_
        refine r_getR dX6_text_29 fl_X6_22 (ly_0 hEc) rfl ?_
        refine r_callV0 dX6_text_32 lk_X6_75 (ly_3 hEc) rfl (Nat.le_of_ble_eq_true rfl) (sp_keep hEc hT6 (by rw [g.2.2.2]; exact hR.2.2.2.1.1.trans hW.2.2.1) ?_)
        refine r_goto (tgt := 42) dX6_text_35 (by decide) ?_
        refine r_ireturn dX6_text_42 rfl rfl ?_
        have K := hR.txt hW hl g e hc (by rw [← ee]; exact en)
        rw [← ee] at K
        exact hk _ L K (fun k hk1 => by rw [s2_ne (by omega)]; exact hgl _ _ g k hk1)
      · skip
        refine qC.enter (by decide) (Nat.le_of_ble_eq_true rfl) ?_
        refine r_aload_n dX7_text_0 rfl ?_
        refine r_getI dX7_text_1 fl_X7_29 (ly_38 hE) rfl ?_
        refine r_rw (y := nI T) (hR.2.2.2.2.1.trans hW.2.2.1) ?_
        refine r_bipush (v := 6) dX7_text_4 rfl ?_
        refine r_icmp_ne (tgt := 12) dX7_text_6 (by decide) (fun _ => ?_) (fun hqz => absurd hqz (fun y => by have := (nI_eq (b := 6) (by omega) (by decide)).mp y; omega))
        refine r_aload_n dX7_text_12 rfl ?_
        refine r_iconst (v := 0) dX7_text_13 rfl ?_
        refine r_putI dX7_text_14 fl_X7_122 fp_7_5 (ly_38 hE) rfl rfl rfl ?_
        refine r_aload_n dX7_text_17 rfl ?_
        refine r_iconst (v := 0) dX7_text_18 rfl ?_
        refine r_putI dX7_text_19 fl_X7_149 fp_7_8 (ly_38 hE) rfl rfl rfl ?_
        refine r_aload_n dX7_text_22 rfl ?_
        refine r_iconst (v := 0) dX7_text_23 rfl ?_
        refine r_putI dX7_text_24 fl_X7_134 fp_7_12 (ly_38 hE) rfl rfl rfl ?_
        have g0 : MG T A (s2 (s2 (s2 A 38 5 0) 38 8 0) 38 12 0) := ((((F8.st (X := [5]) (by decide)).mf (by decide) (by decide) (by decide)).tr ((F8.st (X := [8]) (by decide)).mf (by decide) (by decide) (by decide))).tr ((F8.st (X := [12]) (by decide)).mf (by decide) (by decide) (by decide))).mg
        refine r_aload_n dX7_text_27 rfl ?_
        refine r_callV0 dX7_text_28 lk_X7_180 (ly_38 hE) rfl (Nat.le_of_ble_eq_true rfl) (sp_isText (f := S 41) (z := z) hE hz160 hf hT6 hF (by rw [s2_nj (fun _ => by decide), s2_nj (fun _ => by decide), s2_nj (fun _ => by decide)]; exact hR.2.2.2.1.trans hW.2.2.2.2.2.2.1.2.1) (fun j hj => by rw [s2_ne (by decide), s2_ne (by decide), s2_ne (by decide), hR.2.2.2.2.2.1]) (by rw [s2_nj (fun _ => by decide), s2_nj (fun _ => by decide), s2_same]) (by rw [s2_nj (fun _ => by decide), s2_same]) (by rw [s2_nj (fun _ => by decide), s2_nj (fun _ => by decide), s2_nj (fun _ => by decide)]; exact hR.2.2.2.2.1.trans hW.2.2.1) s2_same (fun j hj => by rw [s2_ne (by decide), s2_ne (by decide), s2_ne (by decide)]; exact hR.2.2.2.2.2.2.2.2.2.2.2.1 j hj) (fun A' j' hj' => absurd (hpt.symm.trans hj') (fun y => by cases y)) (fun A' out' es' hj' g hc en => ?_))
        have ej : out = out' ∧ es = es' := by have := hpt.symm.trans hj'; cases this; exact ⟨rfl, rfl⟩
        obtain ⟨rfl, rfl⟩ := ej
        have e11 : A' 38 11 = nI T := by rw [(g0.tr g).2.2.2.2.2]; exact hR.2.2.2.2.1.trans hW.2.2.1
        refine r_istore_n (loc' := [(1, .int 1), (0, .ref 38)]) dX7_text_31 (by decide) rfl ?_
        refine r_aload_n dX7_text_32 rfl ?_
        refine r_iconst (v := 0) dX7_text_33 rfl ?_
        refine r_putI dX7_text_34 fl_X7_119 fp_7_4 (ly_38 hE) rfl rfl rfl ?_
        refine r_iload_n dX7_text_37 rfl ?_
        refine r_if_ne (tgt := 49) dX7_text_38 (by decide) (fun _ => ?_) (fun hqz => absurd hqz (by decide))
        refine r_aload_n dX7_text_49 rfl ?_
        refine r_dup dX7_text_50 rfl ?_
        refine r_getI dX7_text_51 fl_X7_29 (ly_38 hE) rfl ?_
        refine r_rw (y := nI T) (by rw [s2_nj (fun _ => by decide)]; exact e11) ?_
        refine r_iconst (v := 1) dX7_text_54 rfl ?_
        refine r_iadd dX7_text_55 ?_
        refine r_rw (y := nI (T + 1)) (nI_1 T) ?_
        refine r_putI dX7_text_56 fl_X7_29 fp_7_11 (ly_38 hE) rfl rfl rfl ?_
        refine r_aload_n dX7_text_59 rfl ?_
        refine r_getI dX7_text_60 fl_X7_29 (ly_38 hE) rfl ?_
        refine r_rw (y := nI (T + 1)) s2_same ?_
        refine r_iconst (v := 1) dX7_text_63 rfl ?_
        refine r_isub dX7_text_64 ?_
        refine r_rw (y := nI T) (show nI (T + 1) - nI 1 = _ by rw [pk_sub (by omega)]; rfl) ?_
        refine r_ireturn dX7_text_65 rfl rfl ?_
        have K := hR.txt hW hl (g0.tr g) hc (by rw [← ee]; exact en)
        rw [← ee] at K
        exact hk _ L K (fun k hk1 => by rw [s2_ne (by omega), s2_ne (by omega)]; exact hml _ _ (g0.tr g) k hk1)
end OPTXT
