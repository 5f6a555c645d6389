section TELL2
theorem num_ge (j : Nat) (h : j < 2 ^ 31) : ¬ nI j < -6 := by
  have e := nI_toInt h
  have e2 : (-6 : Int32).toInt = -6 := by decide
  rw [i_lt]
  omega
variable {E : mE} {d : Nat} {A : mA} {L : mJ} {Ph : mP}
set_option maxRecDepth 100000 in
set_option maxHeartbeats 4000000 in
theorem sp_X7_tell (hE : hM E) (r part st e : Nat) (hr : r < 6) (hp : part < 3) (hst : part ≠ 0 → A 43 (3 * r + part - 1) = nI st) (hst0 : part = 0 → st = 0) (he : A 43 (3 * r + part) = nI e) (hse : st ≤ e) (he2 : e ≤ 160) (hrule : A 38 19 = nI r) {wd a : Int32} {f nv : Nat → Int32} (hf : ∀ i, i < e → A 42 (160 * r + i) = f i) (h0 : wd = nv 0) (h1 : a = nv 1) (h2 : A 38 18 = nv 2) (h3 : A 39 61 = nv 3) (h4 : A 38 20 = nv 4) (h5 : A 39 60 = nv 5) (hok : rok f st (e - st) 0)
    (h : ∀ g, Ph (some (.int ((rev nv f st (e - st) []).headD 0))) (va_up A 46 g) L) : qC E mm_X7_tell (d + 2) [.ref 38, .int (nI part), .int wd, .int a] A L Ph := by
  refine qC.enter (by decide) (Nat.le_of_ble_eq_true rfl) ?_
  have K := tell_loop (d := d) (L := L) (Ph := Ph) (A := A) (z := nI st) hE hr hp he he2 hf h0 h1 h2 h3 h4 h5 (e - st) st [] (A 46) (by omega) (Nat.zero_le _) hok trivial h
  rw [up_self] at K
  rcases (show part = 0 ∨ part = 1 ∨ part = 2 by omega) with rfl | rfl | rfl
  · refine r_aload_n dX7_tell_0 rfl ?_
    refine r_getI dX7_tell_1 fl_X7_187 (ly_38 hE) rfl ?_
    refine r_rw (y := nI r) hrule ?_
    refine r_istore (loc' := [(4, .int (nI r)), (0, .ref 38), (1, .int (nI 0)), (2, .int wd), (3, .int a)]) dX7_tell_4 (by decide) rfl ?_
    refine r_iload_n dX7_tell_6 rfl ?_
    refine r_if_ne (tgt := 14) dX7_tell_7 (by decide) (fun hn => absurd (by decide) hn) (fun _ => ?_)
    refine r_iconst (v := 0) dX7_tell_10 rfl ?_
    refine r_rw (y := nI st) (by rw [hst0 rfl]; rfl) ?_
    refine r_goto (tgt := 27) dX7_tell_11 (by decide) ?_
    refine r_istore (loc' := [(5, .int (nI st)), (4, .int (nI r)), (0, .ref 38), (1, .int (nI 0)), (2, .int wd), (3, .int a)]) dX7_tell_27 (by decide) rfl ?_
    refine r_iconst (v := 0) dX7_tell_29 rfl ?_
    refine r_istore (loc' := [(6, .int 0), (5, .int (nI st)), (4, .int (nI r)), (0, .ref 38), (1, .int (nI 0)), (2, .int wd), (3, .int a)]) dX7_tell_30 (by decide) rfl ?_
    refine r_iload dX7_tell_32 rfl ?_
    refine r_istore (loc' := [(7, .int (nI st)), (6, .int 0), (5, .int (nI st)), (4, .int (nI r)), (0, .ref 38), (1, .int (nI 0)), (2, .int wd), (3, .int a)]) dX7_tell_34 (by decide) rfl ?_
    exact K
  · refine r_aload_n dX7_tell_0 rfl ?_
    refine r_getI dX7_tell_1 fl_X7_187 (ly_38 hE) rfl ?_
    refine r_rw (y := nI r) hrule ?_
    refine r_istore (loc' := [(4, .int (nI r)), (0, .ref 38), (1, .int (nI 1)), (2, .int wd), (3, .int a)]) dX7_tell_4 (by decide) rfl ?_
    refine r_iload_n dX7_tell_6 rfl ?_
    refine r_if_ne (tgt := 14) dX7_tell_7 (by decide) (fun _ => ?_) (fun hn => absurd hn (by decide))
    refine r_aload_n dX7_tell_14 rfl ?_
    refine r_getR dX7_tell_15 fl_X7_22 (ly_38 hE) rfl ?_
    refine r_iconst (v := 3) dX7_tell_18 rfl ?_
    refine r_iload dX7_tell_19 rfl ?_
    refine r_imul dX7_tell_21 ?_
    refine r_iload_n dX7_tell_22 rfl ?_
    refine r_iadd dX7_tell_23 ?_
    refine r_iconst (v := 1) dX7_tell_24 rfl ?_
    refine r_isub dX7_tell_25 ?_
    refine r_rw (y := nI (3 * r + 1 - 1)) (show nI 3 * nI r + nI 1 - nI 1 = _ by rw [pk_mul, nI_add, pk_sub (by omega)]) ?_
    refine r_ialdN dX7_tell_26 (ly_43 hE) (by omega) (by decide) ?_
    refine r_rw (y := nI st) (hst (by decide)) ?_
    refine r_istore (loc' := [(5, .int (nI st)), (4, .int (nI r)), (0, .ref 38), (1, .int (nI 1)), (2, .int wd), (3, .int a)]) dX7_tell_27 (by decide) rfl ?_
    refine r_iconst (v := 0) dX7_tell_29 rfl ?_
    refine r_istore (loc' := [(6, .int 0), (5, .int (nI st)), (4, .int (nI r)), (0, .ref 38), (1, .int (nI 1)), (2, .int wd), (3, .int a)]) dX7_tell_30 (by decide) rfl ?_
    refine r_iload dX7_tell_32 rfl ?_
    refine r_istore (loc' := [(7, .int (nI st)), (6, .int 0), (5, .int (nI st)), (4, .int (nI r)), (0, .ref 38), (1, .int (nI 1)), (2, .int wd), (3, .int a)]) dX7_tell_34 (by decide) rfl ?_
    exact K
  · refine r_aload_n dX7_tell_0 rfl ?_
    refine r_getI dX7_tell_1 fl_X7_187 (ly_38 hE) rfl ?_
    refine r_rw (y := nI r) hrule ?_
    refine r_istore (loc' := [(4, .int (nI r)), (0, .ref 38), (1, .int (nI 2)), (2, .int wd), (3, .int a)]) dX7_tell_4 (by decide) rfl ?_
    refine r_iload_n dX7_tell_6 rfl ?_
    refine r_if_ne (tgt := 14) dX7_tell_7 (by decide) (fun _ => ?_) (fun hn => absurd hn (by decide))
    refine r_aload_n dX7_tell_14 rfl ?_
    refine r_getR dX7_tell_15 fl_X7_22 (ly_38 hE) rfl ?_
    refine r_iconst (v := 3) dX7_tell_18 rfl ?_
    refine r_iload dX7_tell_19 rfl ?_
    refine r_imul dX7_tell_21 ?_
    refine r_iload_n dX7_tell_22 rfl ?_
    refine r_iadd dX7_tell_23 ?_
    refine r_iconst (v := 1) dX7_tell_24 rfl ?_
    refine r_isub dX7_tell_25 ?_
    refine r_rw (y := nI (3 * r + 2 - 1)) (show nI 3 * nI r + nI 2 - nI 1 = _ by rw [pk_mul, nI_add, pk_sub (by omega)]) ?_
    refine r_ialdN dX7_tell_26 (ly_43 hE) (by omega) (by decide) ?_
    refine r_rw (y := nI st) (hst (by decide)) ?_
    refine r_istore (loc' := [(5, .int (nI st)), (4, .int (nI r)), (0, .ref 38), (1, .int (nI 2)), (2, .int wd), (3, .int a)]) dX7_tell_27 (by decide) rfl ?_
    refine r_iconst (v := 0) dX7_tell_29 rfl ?_
    refine r_istore (loc' := [(6, .int 0), (5, .int (nI st)), (4, .int (nI r)), (0, .ref 38), (1, .int (nI 2)), (2, .int wd), (3, .int a)]) dX7_tell_30 (by decide) rfl ?_
    refine r_iload dX7_tell_32 rfl ?_
    refine r_istore (loc' := [(7, .int (nI st)), (6, .int 0), (5, .int (nI st)), (4, .int (nI r)), (0, .ref 38), (1, .int (nI 2)), (2, .int wd), (3, .int a)]) dX7_tell_34 (by decide) rfl ?_
    exact K
theorem enc_bop {c : Int32} (h : bop c) : enc c < -8 ∧ enc c < -6 := by
  rcases h with rfl | rfl | rfl | rfl | rfl | rfl | rfl <;> decide
set_option maxRecDepth 100000 in
set_option maxHeartbeats 4000000 in
theorem worth_loop (hE : hC E) {r part e : Nat} (hr : r < 6) (he2 : e ≤ 160) {f nv : Nat → Int32} (hf : ∀ i, i < e → A 22 (160 * r + i) = enc (f i)) (hnv : ∀ k, k < 6 → A 26 k = nv k) :
    ∀ (n i : Nat) (s : List Int32) (g : Nat → Int32), i + n = e → s.length ≤ i → rok f i n s.length → sk g s → (∀ g', Ph (some (.int ((rev nv f i n s).headD 0))) (va_up A 24 g') L) → qG E mm_X5_worth (d + 1) 63 [(6, .int (nI i)), (5, .int (nI s.length)), (4, .int (nI e)), (0, .ref 3), (1, .int (nI r)), (2, .int (nI part)), (3, .ref 26)] [] (va_up A 24 g) L Ph := by
  intro n
  induction n with
  | zero =>
    intro i s g hi hsl hok hs h
    have hi : i = e := by omega
    subst hi
    have h1l : s.length = 1 := hok
    obtain ⟨v, t, rfl⟩ := len1 (s := s) (by omega)
    have ht : t = [] := List.eq_nil_of_length_eq_zero (by simpa using h1l)
    subst ht
    refine r_iload dX5_worth_63 rfl ?_
    refine r_iload dX5_worth_65 rfl ?_
    refine r_icmp_ge (tgt := 249) dX5_worth_67 (by decide) (fun _ => ?_) (fun hn => absurd (nI_le (Nat.le_refl _) (by omega)) hn)
    refine r_aload_n dX5_worth_249 rfl ?_
    refine r_getR dX5_worth_250 fl_X5_18 (ly_3 hE) rfl ?_
    refine r_iconst (v := (nI 0)) dX5_worth_253 rfl ?_
    refine r_ialdN dX5_worth_254 (ly_24 hE) (by decide) (by decide) ?_
    refine r_rw (y := v) (show va_up A 24 g 24 0 = v from hs.1) ?_
    refine r_ireturn dX5_worth_255 rfl rfl ?_
    exact h g
  | succ n ih =>
    intro i s g hi hsl hok hs h
    have hie : i < e := by omega
    have hfi := hf i (by omega)
    have hvc : VC (f i) := hok.1
    rw [rev_succ] at h
    rcases hvc with ⟨j, hj, ej⟩ | ⟨k, hk, ek⟩ | ej | ej | hb
    · refine r_iload dX5_worth_63 rfl ?_
      refine r_iload dX5_worth_65 rfl ?_
      refine r_icmp_ge (tgt := 249) dX5_worth_67 (by decide) (fun hn => absurd hn (nI_ge hie (by omega))) (fun _ => ?_)
      refine r_iload dX5_worth_70 rfl ?_
      refine r_sipush (v := 160) dX5_worth_72 rfl ?_
      refine r_callN2 dX5_worth_75 lk_X5_28 (Nat.le_of_ble_eq_true rfl) (sp_X6_within 160 rfl (by decide) (fun _ _ _ => ?_) (fun hn => absurd rfl (hn i (by omega))))
      refine r_if_eq (tgt := 249) dX5_worth_78 (by decide) (fun hn => absurd hn (by decide)) (fun _ => ?_)
      refine r_aload_n dX5_worth_81 rfl ?_
      refine r_getR dX5_worth_82 fl_X5_9 (ly_3 hE) rfl ?_
      refine r_iload_n dX5_worth_85 rfl ?_
      refine r_sipush (v := 160) dX5_worth_86 rfl ?_
      refine r_imul dX5_worth_89 ?_
      refine r_iload dX5_worth_90 rfl ?_
      refine r_iadd dX5_worth_92 ?_
      refine r_rw (y := nI (160 * r + i)) (show nI r * nI 160 + nI i = _ by rw [pk_mul, nI_add, Nat.mul_comm]) ?_
      refine r_ialdN dX5_worth_93 (ly_22 hE) (by omega) (by decide) ?_
      refine r_rw (y := nI j) ((show va_up A 24 g 22 (160 * r + i) = enc (f i) from hfi).trans (by rw [ej]; exact enc_num hj)) ?_
      refine r_istore (loc' := [(7, .int (nI j)), (6, .int (nI i)), (5, .int (nI s.length)), (4, .int (nI e)), (0, .ref 3), (1, .int (nI r)), (2, .int (nI part)), (3, .ref 26)]) dX5_worth_94 (by decide) rfl ?_
      refine r_iload dX5_worth_96 rfl ?_
      refine r_bipush (v := (-6)) dX5_worth_98 rfl ?_
      refine r_icmp_lt (tgt := 140) dX5_worth_100 (by decide) (fun hn => absurd hn (num_ge j (by omega))) (fun _ => ?_)
      refine r_iload dX5_worth_103 rfl ?_
      refine r_sipush (v := 160) dX5_worth_105 rfl ?_
      refine r_icmp_ge (tgt := 140) dX5_worth_108 (by decide) (fun hn => absurd hn (nI_ge (show s.length < 160 by omega) (by decide))) (fun _ => ?_)
      refine r_aload_n dX5_worth_111 rfl ?_
      refine r_getR dX5_worth_112 fl_X5_18 (ly_3 hE) rfl ?_
      refine r_iload dX5_worth_115 rfl ?_
      refine r_iload dX5_worth_117 rfl ?_
      refine r_if_lt (tgt := 127) dX5_worth_119 (by decide) (fun hn => absurd hn (nI_pos (by omega))) (fun _ => ?_)
      refine r_iload dX5_worth_122 rfl ?_
      refine r_goto (tgt := 133) dX5_worth_124 (by decide) ?_
      refine r_iastN dX5_worth_133 (ly_24 hE) (by omega) (by decide) ?_
      refine r_iinc (v := (nI (s.length + 1))) (loc' := [(5, .int (nI (s.length + 1))), (7, .int (nI j)), (6, .int (nI i)), (4, .int (nI e)), (0, .ref 3), (1, .int (nI r)), (2, .int (nI part)), (3, .ref 26)]) dX5_worth_134 rfl ((nI_succ _).symm) (by decide) rfl ?_
      refine r_goto (tgt := 243) dX5_worth_137 (by decide) ?_
      refine r_iinc (v := (nI (i + 1))) (loc' := [(6, .int (nI (i + 1))), (5, .int (nI (s.length + 1))), (7, .int (nI j)), (4, .int (nI e)), (0, .ref 3), (1, .int (nI r)), (2, .int (nI part)), (3, .ref 26)]) dX5_worth_243 rfl ((nI_succ _).symm) (by decide) rfl ?_
      refine r_goto (tgt := 63) dX5_worth_246 (by decide) ?_
      refine qG.pick [0, 1, 3, 4, 5, 6, 7] rfl ?_
      rw [s2_up]
      rw [ej, rst_num hj] at h
      exact ih (i + 1) (nI j :: s) _ (by omega) (by simp only [List.length_cons]; omega) (rok_num hok hj ej) (sk_push hs) h
    · rcases (show k = 0 ∨ k = 1 ∨ k = 2 ∨ k = 3 ∨ k = 4 ∨ k = 5 by omega) with rfl | rfl | rfl | rfl | rfl | rfl
      · refine r_iload dX5_worth_63 rfl ?_
        refine r_iload dX5_worth_65 rfl ?_
        refine r_icmp_ge (tgt := 249) dX5_worth_67 (by decide) (fun hn => absurd hn (nI_ge hie (by omega))) (fun _ => ?_)
        refine r_iload dX5_worth_70 rfl ?_
        refine r_sipush (v := 160) dX5_worth_72 rfl ?_
        refine r_callN2 dX5_worth_75 lk_X5_28 (Nat.le_of_ble_eq_true rfl) (sp_X6_within 160 rfl (by decide) (fun _ _ _ => ?_) (fun hn => absurd rfl (hn i (by omega))))
        refine r_if_eq (tgt := 249) dX5_worth_78 (by decide) (fun hn => absurd hn (by decide)) (fun _ => ?_)
        refine r_aload_n dX5_worth_81 rfl ?_
        refine r_getR dX5_worth_82 fl_X5_9 (ly_3 hE) rfl ?_
        refine r_iload_n dX5_worth_85 rfl ?_
        refine r_sipush (v := 160) dX5_worth_86 rfl ?_
        refine r_imul dX5_worth_89 ?_
        refine r_iload dX5_worth_90 rfl ?_
        refine r_iadd dX5_worth_92 ?_
        refine r_rw (y := nI (160 * r + i)) (show nI r * nI 160 + nI i = _ by rw [pk_mul, nI_add, Nat.mul_comm]) ?_
        refine r_ialdN dX5_worth_93 (ly_22 hE) (by omega) (by decide) ?_
        refine r_rw (y := -1) ((show va_up A 24 g 22 (160 * r + i) = enc (f i) from hfi).trans (by rw [ek, enc_nm _ hk]; decide)) ?_
        refine r_istore (loc' := [(7, .int (-1)), (6, .int (nI i)), (5, .int (nI s.length)), (4, .int (nI e)), (0, .ref 3), (1, .int (nI r)), (2, .int (nI part)), (3, .ref 26)]) dX5_worth_94 (by decide) rfl ?_
        refine r_iload dX5_worth_96 rfl ?_
        refine r_bipush (v := (-6)) dX5_worth_98 rfl ?_
        refine r_icmp_lt (tgt := 140) dX5_worth_100 (by decide) (fun hn => absurd hn (by decide)) (fun _ => ?_)
        refine r_iload dX5_worth_103 rfl ?_
        refine r_sipush (v := 160) dX5_worth_105 rfl ?_
        refine r_icmp_ge (tgt := 140) dX5_worth_108 (by decide) (fun hn => absurd hn (nI_ge (show s.length < 160 by omega) (by decide))) (fun _ => ?_)
        refine r_aload_n dX5_worth_111 rfl ?_
        refine r_getR dX5_worth_112 fl_X5_18 (ly_3 hE) rfl ?_
        refine r_iload dX5_worth_115 rfl ?_
        refine r_iload dX5_worth_117 rfl ?_
        refine r_if_lt (tgt := 127) dX5_worth_119 (by decide) (fun _ => ?_) (fun hn => absurd (by decide) hn)
        refine r_aload_n dX5_worth_127 rfl ?_
        refine r_iconst (v := (-1)) dX5_worth_128 rfl ?_
        refine r_iload dX5_worth_129 rfl ?_
        refine r_isub dX5_worth_131 ?_
        refine r_rw (y := nI 0) (by decide) ?_
        refine r_ialdN dX5_worth_132 (ly_26 hE) (by decide) (by decide) ?_
        refine r_rw (y := nv 0) (show va_up A 24 g 26 0 = nv 0 from hnv 0 (by decide)) ?_
        refine r_iastN dX5_worth_133 (ly_24 hE) (by omega) (by decide) ?_
        refine r_iinc (v := (nI (s.length + 1))) (loc' := [(5, .int (nI (s.length + 1))), (7, .int (-1)), (6, .int (nI i)), (4, .int (nI e)), (0, .ref 3), (1, .int (nI r)), (2, .int (nI part)), (3, .ref 26)]) dX5_worth_134 rfl ((nI_succ _).symm) (by decide) rfl ?_
        refine r_goto (tgt := 243) dX5_worth_137 (by decide) ?_
        refine r_iinc (v := (nI (i + 1))) (loc' := [(6, .int (nI (i + 1))), (5, .int (nI (s.length + 1))), (7, .int (-1)), (4, .int (nI e)), (0, .ref 3), (1, .int (nI r)), (2, .int (nI part)), (3, .ref 26)]) dX5_worth_243 rfl ((nI_succ _).symm) (by decide) rfl ?_
        refine r_goto (tgt := 63) dX5_worth_246 (by decide) ?_
        refine qG.pick [0, 1, 3, 4, 5, 6, 7] rfl ?_
        rw [s2_up]
        rw [ek, rst_nm hk] at h
        exact ih (i + 1) (nv 0 :: s) _ (by omega) (by simp only [List.length_cons]; omega) (rok_nm hok hk ek) (sk_push hs) h
      · refine r_iload dX5_worth_63 rfl ?_
        refine r_iload dX5_worth_65 rfl ?_
        refine r_icmp_ge (tgt := 249) dX5_worth_67 (by decide) (fun hn => absurd hn (nI_ge hie (by omega))) (fun _ => ?_)
        refine r_iload dX5_worth_70 rfl ?_
        refine r_sipush (v := 160) dX5_worth_72 rfl ?_
        refine r_callN2 dX5_worth_75 lk_X5_28 (Nat.le_of_ble_eq_true rfl) (sp_X6_within 160 rfl (by decide) (fun _ _ _ => ?_) (fun hn => absurd rfl (hn i (by omega))))
        refine r_if_eq (tgt := 249) dX5_worth_78 (by decide) (fun hn => absurd hn (by decide)) (fun _ => ?_)
        refine r_aload_n dX5_worth_81 rfl ?_
        refine r_getR dX5_worth_82 fl_X5_9 (ly_3 hE) rfl ?_
        refine r_iload_n dX5_worth_85 rfl ?_
        refine r_sipush (v := 160) dX5_worth_86 rfl ?_
        refine r_imul dX5_worth_89 ?_
        refine r_iload dX5_worth_90 rfl ?_
        refine r_iadd dX5_worth_92 ?_
        refine r_rw (y := nI (160 * r + i)) (show nI r * nI 160 + nI i = _ by rw [pk_mul, nI_add, Nat.mul_comm]) ?_
        refine r_ialdN dX5_worth_93 (ly_22 hE) (by omega) (by decide) ?_
        refine r_rw (y := -2) ((show va_up A 24 g 22 (160 * r + i) = enc (f i) from hfi).trans (by rw [ek, enc_nm _ hk]; decide)) ?_
        refine r_istore (loc' := [(7, .int (-2)), (6, .int (nI i)), (5, .int (nI s.length)), (4, .int (nI e)), (0, .ref 3), (1, .int (nI r)), (2, .int (nI part)), (3, .ref 26)]) dX5_worth_94 (by decide) rfl ?_
        refine r_iload dX5_worth_96 rfl ?_
        refine r_bipush (v := (-6)) dX5_worth_98 rfl ?_
        refine r_icmp_lt (tgt := 140) dX5_worth_100 (by decide) (fun hn => absurd hn (by decide)) (fun _ => ?_)
        refine r_iload dX5_worth_103 rfl ?_
        refine r_sipush (v := 160) dX5_worth_105 rfl ?_
        refine r_icmp_ge (tgt := 140) dX5_worth_108 (by decide) (fun hn => absurd hn (nI_ge (show s.length < 160 by omega) (by decide))) (fun _ => ?_)
        refine r_aload_n dX5_worth_111 rfl ?_
        refine r_getR dX5_worth_112 fl_X5_18 (ly_3 hE) rfl ?_
        refine r_iload dX5_worth_115 rfl ?_
        refine r_iload dX5_worth_117 rfl ?_
        refine r_if_lt (tgt := 127) dX5_worth_119 (by decide) (fun _ => ?_) (fun hn => absurd (by decide) hn)
        refine r_aload_n dX5_worth_127 rfl ?_
        refine r_iconst (v := (-1)) dX5_worth_128 rfl ?_
        refine r_iload dX5_worth_129 rfl ?_
        refine r_isub dX5_worth_131 ?_
        refine r_rw (y := nI 1) (by decide) ?_
        refine r_ialdN dX5_worth_132 (ly_26 hE) (by decide) (by decide) ?_
        refine r_rw (y := nv 1) (show va_up A 24 g 26 1 = nv 1 from hnv 1 (by decide)) ?_
        refine r_iastN dX5_worth_133 (ly_24 hE) (by omega) (by decide) ?_
        refine r_iinc (v := (nI (s.length + 1))) (loc' := [(5, .int (nI (s.length + 1))), (7, .int (-2)), (6, .int (nI i)), (4, .int (nI e)), (0, .ref 3), (1, .int (nI r)), (2, .int (nI part)), (3, .ref 26)]) dX5_worth_134 rfl ((nI_succ _).symm) (by decide) rfl ?_
        refine r_goto (tgt := 243) dX5_worth_137 (by decide) ?_
        refine r_iinc (v := (nI (i + 1))) (loc' := [(6, .int (nI (i + 1))), (5, .int (nI (s.length + 1))), (7, .int (-2)), (4, .int (nI e)), (0, .ref 3), (1, .int (nI r)), (2, .int (nI part)), (3, .ref 26)]) dX5_worth_243 rfl ((nI_succ _).symm) (by decide) rfl ?_
        refine r_goto (tgt := 63) dX5_worth_246 (by decide) ?_
        refine qG.pick [0, 1, 3, 4, 5, 6, 7] rfl ?_
        rw [s2_up]
        rw [ek, rst_nm hk] at h
        exact ih (i + 1) (nv 1 :: s) _ (by omega) (by simp only [List.length_cons]; omega) (rok_nm hok hk ek) (sk_push hs) h
      · refine r_iload dX5_worth_63 rfl ?_
        refine r_iload dX5_worth_65 rfl ?_
        refine r_icmp_ge (tgt := 249) dX5_worth_67 (by decide) (fun hn => absurd hn (nI_ge hie (by omega))) (fun _ => ?_)
        refine r_iload dX5_worth_70 rfl ?_
        refine r_sipush (v := 160) dX5_worth_72 rfl ?_
        refine r_callN2 dX5_worth_75 lk_X5_28 (Nat.le_of_ble_eq_true rfl) (sp_X6_within 160 rfl (by decide) (fun _ _ _ => ?_) (fun hn => absurd rfl (hn i (by omega))))
        refine r_if_eq (tgt := 249) dX5_worth_78 (by decide) (fun hn => absurd hn (by decide)) (fun _ => ?_)
        refine r_aload_n dX5_worth_81 rfl ?_
        refine r_getR dX5_worth_82 fl_X5_9 (ly_3 hE) rfl ?_
        refine r_iload_n dX5_worth_85 rfl ?_
        refine r_sipush (v := 160) dX5_worth_86 rfl ?_
        refine r_imul dX5_worth_89 ?_
        refine r_iload dX5_worth_90 rfl ?_
        refine r_iadd dX5_worth_92 ?_
        refine r_rw (y := nI (160 * r + i)) (show nI r * nI 160 + nI i = _ by rw [pk_mul, nI_add, Nat.mul_comm]) ?_
        refine r_ialdN dX5_worth_93 (ly_22 hE) (by omega) (by decide) ?_
        refine r_rw (y := -3) ((show va_up A 24 g 22 (160 * r + i) = enc (f i) from hfi).trans (by rw [ek, enc_nm _ hk]; decide)) ?_
        refine r_istore (loc' := [(7, .int (-3)), (6, .int (nI i)), (5, .int (nI s.length)), (4, .int (nI e)), (0, .ref 3), (1, .int (nI r)), (2, .int (nI part)), (3, .ref 26)]) dX5_worth_94 (by decide) rfl ?_
        refine r_iload dX5_worth_96 rfl ?_
        refine r_bipush (v := (-6)) dX5_worth_98 rfl ?_
        refine r_icmp_lt (tgt := 140) dX5_worth_100 (by decide) (fun hn => absurd hn (by decide)) (fun _ => ?_)
        refine r_iload dX5_worth_103 rfl ?_
        refine r_sipush (v := 160) dX5_worth_105 rfl ?_
        refine r_icmp_ge (tgt := 140) dX5_worth_108 (by decide) (fun hn => absurd hn (nI_ge (show s.length < 160 by omega) (by decide))) (fun _ => ?_)
        refine r_aload_n dX5_worth_111 rfl ?_
        refine r_getR dX5_worth_112 fl_X5_18 (ly_3 hE) rfl ?_
        refine r_iload dX5_worth_115 rfl ?_
        refine r_iload dX5_worth_117 rfl ?_
        refine r_if_lt (tgt := 127) dX5_worth_119 (by decide) (fun _ => ?_) (fun hn => absurd (by decide) hn)
        refine r_aload_n dX5_worth_127 rfl ?_
        refine r_iconst (v := (-1)) dX5_worth_128 rfl ?_
        refine r_iload dX5_worth_129 rfl ?_
        refine r_isub dX5_worth_131 ?_
        refine r_rw (y := nI 2) (by decide) ?_
        refine r_ialdN dX5_worth_132 (ly_26 hE) (by decide) (by decide) ?_
        refine r_rw (y := nv 2) (show va_up A 24 g 26 2 = nv 2 from hnv 2 (by decide)) ?_
        refine r_iastN dX5_worth_133 (ly_24 hE) (by omega) (by decide) ?_
        refine r_iinc (v := (nI (s.length + 1))) (loc' := [(5, .int (nI (s.length + 1))), (7, .int (-3)), (6, .int (nI i)), (4, .int (nI e)), (0, .ref 3), (1, .int (nI r)), (2, .int (nI part)), (3, .ref 26)]) dX5_worth_134 rfl ((nI_succ _).symm) (by decide) rfl ?_
        refine r_goto (tgt := 243) dX5_worth_137 (by decide) ?_
        refine r_iinc (v := (nI (i + 1))) (loc' := [(6, .int (nI (i + 1))), (5, .int (nI (s.length + 1))), (7, .int (-3)), (4, .int (nI e)), (0, .ref 3), (1, .int (nI r)), (2, .int (nI part)), (3, .ref 26)]) dX5_worth_243 rfl ((nI_succ _).symm) (by decide) rfl ?_
        refine r_goto (tgt := 63) dX5_worth_246 (by decide) ?_
        refine qG.pick [0, 1, 3, 4, 5, 6, 7] rfl ?_
        rw [s2_up]
        rw [ek, rst_nm hk] at h
        exact ih (i + 1) (nv 2 :: s) _ (by omega) (by simp only [List.length_cons]; omega) (rok_nm hok hk ek) (sk_push hs) h
      · refine r_iload dX5_worth_63 rfl ?_
        refine r_iload dX5_worth_65 rfl ?_
        refine r_icmp_ge (tgt := 249) dX5_worth_67 (by decide) (fun hn => absurd hn (nI_ge hie (by omega))) (fun _ => ?_)
        refine r_iload dX5_worth_70 rfl ?_
        refine r_sipush (v := 160) dX5_worth_72 rfl ?_
        refine r_callN2 dX5_worth_75 lk_X5_28 (Nat.le_of_ble_eq_true rfl) (sp_X6_within 160 rfl (by decide) (fun _ _ _ => ?_) (fun hn => absurd rfl (hn i (by omega))))
        refine r_if_eq (tgt := 249) dX5_worth_78 (by decide) (fun hn => absurd hn (by decide)) (fun _ => ?_)
        refine r_aload_n dX5_worth_81 rfl ?_
        refine r_getR dX5_worth_82 fl_X5_9 (ly_3 hE) rfl ?_
        refine r_iload_n dX5_worth_85 rfl ?_
        refine r_sipush (v := 160) dX5_worth_86 rfl ?_
        refine r_imul dX5_worth_89 ?_
        refine r_iload dX5_worth_90 rfl ?_
        refine r_iadd dX5_worth_92 ?_
        refine r_rw (y := nI (160 * r + i)) (show nI r * nI 160 + nI i = _ by rw [pk_mul, nI_add, Nat.mul_comm]) ?_
        refine r_ialdN dX5_worth_93 (ly_22 hE) (by omega) (by decide) ?_
        refine r_rw (y := -4) ((show va_up A 24 g 22 (160 * r + i) = enc (f i) from hfi).trans (by rw [ek, enc_nm _ hk]; decide)) ?_
        refine r_istore (loc' := [(7, .int (-4)), (6, .int (nI i)), (5, .int (nI s.length)), (4, .int (nI e)), (0, .ref 3), (1, .int (nI r)), (2, .int (nI part)), (3, .ref 26)]) dX5_worth_94 (by decide) rfl ?_
        refine r_iload dX5_worth_96 rfl ?_
        refine r_bipush (v := (-6)) dX5_worth_98 rfl ?_
        refine r_icmp_lt (tgt := 140) dX5_worth_100 (by decide) (fun hn => absurd hn (by decide)) (fun _ => ?_)
        refine r_iload dX5_worth_103 rfl ?_
        refine r_sipush (v := 160) dX5_worth_105 rfl ?_
        refine r_icmp_ge (tgt := 140) dX5_worth_108 (by decide) (fun hn => absurd hn (nI_ge (show s.length < 160 by omega) (by decide))) (fun _ => ?_)
        refine r_aload_n dX5_worth_111 rfl ?_
        refine r_getR dX5_worth_112 fl_X5_18 (ly_3 hE) rfl ?_
        refine r_iload dX5_worth_115 rfl ?_
        refine r_iload dX5_worth_117 rfl ?_
        refine r_if_lt (tgt := 127) dX5_worth_119 (by decide) (fun _ => ?_) (fun hn => absurd (by decide) hn)
        refine r_aload_n dX5_worth_127 rfl ?_
        refine r_iconst (v := (-1)) dX5_worth_128 rfl ?_
        refine r_iload dX5_worth_129 rfl ?_
        refine r_isub dX5_worth_131 ?_
        refine r_rw (y := nI 3) (by decide) ?_
        refine r_ialdN dX5_worth_132 (ly_26 hE) (by decide) (by decide) ?_
        refine r_rw (y := nv 3) (show va_up A 24 g 26 3 = nv 3 from hnv 3 (by decide)) ?_
        refine r_iastN dX5_worth_133 (ly_24 hE) (by omega) (by decide) ?_
        refine r_iinc (v := (nI (s.length + 1))) (loc' := [(5, .int (nI (s.length + 1))), (7, .int (-4)), (6, .int (nI i)), (4, .int (nI e)), (0, .ref 3), (1, .int (nI r)), (2, .int (nI part)), (3, .ref 26)]) dX5_worth_134 rfl ((nI_succ _).symm) (by decide) rfl ?_
        refine r_goto (tgt := 243) dX5_worth_137 (by decide) ?_
        refine r_iinc (v := (nI (i + 1))) (loc' := [(6, .int (nI (i + 1))), (5, .int (nI (s.length + 1))), (7, .int (-4)), (4, .int (nI e)), (0, .ref 3), (1, .int (nI r)), (2, .int (nI part)), (3, .ref 26)]) dX5_worth_243 rfl ((nI_succ _).symm) (by decide) rfl ?_
        refine r_goto (tgt := 63) dX5_worth_246 (by decide) ?_
        refine qG.pick [0, 1, 3, 4, 5, 6, 7] rfl ?_
        rw [s2_up]
        rw [ek, rst_nm hk] at h
        exact ih (i + 1) (nv 3 :: s) _ (by omega) (by simp only [List.length_cons]; omega) (rok_nm hok hk ek) (sk_push hs) h
      · refine r_iload dX5_worth_63 rfl ?_
        refine r_iload dX5_worth_65 rfl ?_
        refine r_icmp_ge (tgt := 249) dX5_worth_67 (by decide) (fun hn => absurd hn (nI_ge hie (by omega))) (fun _ => ?_)
        refine r_iload dX5_worth_70 rfl ?_
        refine r_sipush (v := 160) dX5_worth_72 rfl ?_
        refine r_callN2 dX5_worth_75 lk_X5_28 (Nat.le_of_ble_eq_true rfl) (sp_X6_within 160 rfl (by decide) (fun _ _ _ => ?_) (fun hn => absurd rfl (hn i (by omega))))
        refine r_if_eq (tgt := 249) dX5_worth_78 (by decide) (fun hn => absurd hn (by decide)) (fun _ => ?_)
        refine r_aload_n dX5_worth_81 rfl ?_
        refine r_getR dX5_worth_82 fl_X5_9 (ly_3 hE) rfl ?_
        refine r_iload_n dX5_worth_85 rfl ?_
        refine r_sipush (v := 160) dX5_worth_86 rfl ?_
        refine r_imul dX5_worth_89 ?_
        refine r_iload dX5_worth_90 rfl ?_
        refine r_iadd dX5_worth_92 ?_
        refine r_rw (y := nI (160 * r + i)) (show nI r * nI 160 + nI i = _ by rw [pk_mul, nI_add, Nat.mul_comm]) ?_
        refine r_ialdN dX5_worth_93 (ly_22 hE) (by omega) (by decide) ?_
        refine r_rw (y := -5) ((show va_up A 24 g 22 (160 * r + i) = enc (f i) from hfi).trans (by rw [ek, enc_nm _ hk]; decide)) ?_
        refine r_istore (loc' := [(7, .int (-5)), (6, .int (nI i)), (5, .int (nI s.length)), (4, .int (nI e)), (0, .ref 3), (1, .int (nI r)), (2, .int (nI part)), (3, .ref 26)]) dX5_worth_94 (by decide) rfl ?_
        refine r_iload dX5_worth_96 rfl ?_
        refine r_bipush (v := (-6)) dX5_worth_98 rfl ?_
        refine r_icmp_lt (tgt := 140) dX5_worth_100 (by decide) (fun hn => absurd hn (by decide)) (fun _ => ?_)
        refine r_iload dX5_worth_103 rfl ?_
        refine r_sipush (v := 160) dX5_worth_105 rfl ?_
        refine r_icmp_ge (tgt := 140) dX5_worth_108 (by decide) (fun hn => absurd hn (nI_ge (show s.length < 160 by omega) (by decide))) (fun _ => ?_)
        refine r_aload_n dX5_worth_111 rfl ?_
        refine r_getR dX5_worth_112 fl_X5_18 (ly_3 hE) rfl ?_
        refine r_iload dX5_worth_115 rfl ?_
        refine r_iload dX5_worth_117 rfl ?_
        refine r_if_lt (tgt := 127) dX5_worth_119 (by decide) (fun _ => ?_) (fun hn => absurd (by decide) hn)
        refine r_aload_n dX5_worth_127 rfl ?_
        refine r_iconst (v := (-1)) dX5_worth_128 rfl ?_
        refine r_iload dX5_worth_129 rfl ?_
        refine r_isub dX5_worth_131 ?_
        refine r_rw (y := nI 4) (by decide) ?_
        refine r_ialdN dX5_worth_132 (ly_26 hE) (by decide) (by decide) ?_
        refine r_rw (y := nv 4) (show va_up A 24 g 26 4 = nv 4 from hnv 4 (by decide)) ?_
        refine r_iastN dX5_worth_133 (ly_24 hE) (by omega) (by decide) ?_
        refine r_iinc (v := (nI (s.length + 1))) (loc' := [(5, .int (nI (s.length + 1))), (7, .int (-5)), (6, .int (nI i)), (4, .int (nI e)), (0, .ref 3), (1, .int (nI r)), (2, .int (nI part)), (3, .ref 26)]) dX5_worth_134 rfl ((nI_succ _).symm) (by decide) rfl ?_
        refine r_goto (tgt := 243) dX5_worth_137 (by decide) ?_
        refine r_iinc (v := (nI (i + 1))) (loc' := [(6, .int (nI (i + 1))), (5, .int (nI (s.length + 1))), (7, .int (-5)), (4, .int (nI e)), (0, .ref 3), (1, .int (nI r)), (2, .int (nI part)), (3, .ref 26)]) dX5_worth_243 rfl ((nI_succ _).symm) (by decide) rfl ?_
        refine r_goto (tgt := 63) dX5_worth_246 (by decide) ?_
        refine qG.pick [0, 1, 3, 4, 5, 6, 7] rfl ?_
        rw [s2_up]
        rw [ek, rst_nm hk] at h
        exact ih (i + 1) (nv 4 :: s) _ (by omega) (by simp only [List.length_cons]; omega) (rok_nm hok hk ek) (sk_push hs) h
      · refine r_iload dX5_worth_63 rfl ?_
        refine r_iload dX5_worth_65 rfl ?_
        refine r_icmp_ge (tgt := 249) dX5_worth_67 (by decide) (fun hn => absurd hn (nI_ge hie (by omega))) (fun _ => ?_)
        refine r_iload dX5_worth_70 rfl ?_
        refine r_sipush (v := 160) dX5_worth_72 rfl ?_
        refine r_callN2 dX5_worth_75 lk_X5_28 (Nat.le_of_ble_eq_true rfl) (sp_X6_within 160 rfl (by decide) (fun _ _ _ => ?_) (fun hn => absurd rfl (hn i (by omega))))
        refine r_if_eq (tgt := 249) dX5_worth_78 (by decide) (fun hn => absurd hn (by decide)) (fun _ => ?_)
        refine r_aload_n dX5_worth_81 rfl ?_
        refine r_getR dX5_worth_82 fl_X5_9 (ly_3 hE) rfl ?_
        refine r_iload_n dX5_worth_85 rfl ?_
        refine r_sipush (v := 160) dX5_worth_86 rfl ?_
        refine r_imul dX5_worth_89 ?_
        refine r_iload dX5_worth_90 rfl ?_
        refine r_iadd dX5_worth_92 ?_
        refine r_rw (y := nI (160 * r + i)) (show nI r * nI 160 + nI i = _ by rw [pk_mul, nI_add, Nat.mul_comm]) ?_
        refine r_ialdN dX5_worth_93 (ly_22 hE) (by omega) (by decide) ?_
        refine r_rw (y := -6) ((show va_up A 24 g 22 (160 * r + i) = enc (f i) from hfi).trans (by rw [ek, enc_nm _ hk]; decide)) ?_
        refine r_istore (loc' := [(7, .int (-6)), (6, .int (nI i)), (5, .int (nI s.length)), (4, .int (nI e)), (0, .ref 3), (1, .int (nI r)), (2, .int (nI part)), (3, .ref 26)]) dX5_worth_94 (by decide) rfl ?_
        refine r_iload dX5_worth_96 rfl ?_
        refine r_bipush (v := (-6)) dX5_worth_98 rfl ?_
        refine r_icmp_lt (tgt := 140) dX5_worth_100 (by decide) (fun hn => absurd hn (by decide)) (fun _ => ?_)
        refine r_iload dX5_worth_103 rfl ?_
        refine r_sipush (v := 160) dX5_worth_105 rfl ?_
        refine r_icmp_ge (tgt := 140) dX5_worth_108 (by decide) (fun hn => absurd hn (nI_ge (show s.length < 160 by omega) (by decide))) (fun _ => ?_)
        refine r_aload_n dX5_worth_111 rfl ?_
        refine r_getR dX5_worth_112 fl_X5_18 (ly_3 hE) rfl ?_
        refine r_iload dX5_worth_115 rfl ?_
        refine r_iload dX5_worth_117 rfl ?_
        refine r_if_lt (tgt := 127) dX5_worth_119 (by decide) (fun _ => ?_) (fun hn => absurd (by decide) hn)
        refine r_aload_n dX5_worth_127 rfl ?_
        refine r_iconst (v := (-1)) dX5_worth_128 rfl ?_
        refine r_iload dX5_worth_129 rfl ?_
        refine r_isub dX5_worth_131 ?_
        refine r_rw (y := nI 5) (by decide) ?_
        refine r_ialdN dX5_worth_132 (ly_26 hE) (by decide) (by decide) ?_
        refine r_rw (y := nv 5) (show va_up A 24 g 26 5 = nv 5 from hnv 5 (by decide)) ?_
        refine r_iastN dX5_worth_133 (ly_24 hE) (by omega) (by decide) ?_
        refine r_iinc (v := (nI (s.length + 1))) (loc' := [(5, .int (nI (s.length + 1))), (7, .int (-6)), (6, .int (nI i)), (4, .int (nI e)), (0, .ref 3), (1, .int (nI r)), (2, .int (nI part)), (3, .ref 26)]) dX5_worth_134 rfl ((nI_succ _).symm) (by decide) rfl ?_
        refine r_goto (tgt := 243) dX5_worth_137 (by decide) ?_
        refine r_iinc (v := (nI (i + 1))) (loc' := [(6, .int (nI (i + 1))), (5, .int (nI (s.length + 1))), (7, .int (-6)), (4, .int (nI e)), (0, .ref 3), (1, .int (nI r)), (2, .int (nI part)), (3, .ref 26)]) dX5_worth_243 rfl ((nI_succ _).symm) (by decide) rfl ?_
        refine r_goto (tgt := 63) dX5_worth_246 (by decide) ?_
        refine qG.pick [0, 1, 3, 4, 5, 6, 7] rfl ?_
        rw [s2_up]
        rw [ek, rst_nm hk] at h
        exact ih (i + 1) (nv 5 :: s) _ (by omega) (by simp only [List.length_cons]; omega) (rok_nm hok hk ek) (sk_push hs) h
    · obtain ⟨hpos, hok'⟩ := rok_un hok (Or.inl ej)
      obtain ⟨q, t, rfl⟩ := len1 hpos
      have hq : g t.length = q := hs.1
      refine r_iload dX5_worth_63 rfl ?_
      refine r_iload dX5_worth_65 rfl ?_
      refine r_icmp_ge (tgt := 249) dX5_worth_67 (by decide) (fun hn => absurd hn (nI_ge hie (by omega))) (fun _ => ?_)
      refine r_iload dX5_worth_70 rfl ?_
      refine r_sipush (v := 160) dX5_worth_72 rfl ?_
      refine r_callN2 dX5_worth_75 lk_X5_28 (Nat.le_of_ble_eq_true rfl) (sp_X6_within 160 rfl (by decide) (fun _ _ _ => ?_) (fun hn => absurd rfl (hn i (by omega))))
      refine r_if_eq (tgt := 249) dX5_worth_78 (by decide) (fun hn => absurd hn (by decide)) (fun _ => ?_)
      refine r_aload_n dX5_worth_81 rfl ?_
      refine r_getR dX5_worth_82 fl_X5_9 (ly_3 hE) rfl ?_
      refine r_iload_n dX5_worth_85 rfl ?_
      refine r_sipush (v := 160) dX5_worth_86 rfl ?_
      refine r_imul dX5_worth_89 ?_
      refine r_iload dX5_worth_90 rfl ?_
      refine r_iadd dX5_worth_92 ?_
      refine r_rw (y := nI (160 * r + i)) (show nI r * nI 160 + nI i = _ by rw [pk_mul, nI_add, Nat.mul_comm]) ?_
      refine r_ialdN dX5_worth_93 (ly_22 hE) (by omega) (by decide) ?_
      refine r_rw (y := (-7)) ((show va_up A 24 g 22 (160 * r + i) = enc (f i) from hfi).trans (by rw [ej]; decide)) ?_
      refine r_istore (loc' := [(7, .int (-7)), (6, .int (nI i)), (5, .int (nI (t.length + 1))), (4, .int (nI e)), (0, .ref 3), (1, .int (nI r)), (2, .int (nI part)), (3, .ref 26)]) dX5_worth_94 (by decide) rfl ?_
      refine r_iload dX5_worth_96 rfl ?_
      refine r_bipush (v := (-6)) dX5_worth_98 rfl ?_
      refine r_icmp_lt (tgt := 140) dX5_worth_100 (by decide) (fun _ => ?_) (fun hn => absurd (by decide) hn)
      refine r_iload dX5_worth_140 rfl ?_
      refine r_bipush (v := (-8)) dX5_worth_142 rfl ?_
      refine r_icmp_lt (tgt := 202) dX5_worth_144 (by decide) (fun hn => absurd hn (by decide)) (fun _ => ?_)
      refine r_iload dX5_worth_147 rfl ?_
      refine r_iconst (v := 1) dX5_worth_149 rfl ?_
      refine r_icmp_lt (tgt := 202) dX5_worth_150 (by decide) (fun hn => absurd hn (show ¬ nI (t.length + 1) < nI 1 from nI_nlt (by omega) (by simp only [List.length_cons] at hsl; omega))) (fun _ => ?_)
      refine r_aload_n dX5_worth_153 rfl ?_
      refine r_getR dX5_worth_154 fl_X5_18 (ly_3 hE) rfl ?_
      refine r_iload dX5_worth_157 rfl ?_
      refine r_iconst (v := 1) dX5_worth_159 rfl ?_
      refine r_isub dX5_worth_160 ?_
      refine r_rw (y := nI t.length) (nI_pred _) ?_
      refine r_iload dX5_worth_161 rfl ?_
      refine r_bipush (v := (-7)) dX5_worth_163 rfl ?_
      refine r_icmp_ne (tgt := 188) dX5_worth_165 (by decide) (fun hn => absurd (by decide) hn) (fun _ => ?_)
      refine r_aload_n dX5_worth_168 rfl ?_
      refine r_getR dX5_worth_169 fl_X5_18 (ly_3 hE) rfl ?_
      refine r_iload dX5_worth_172 rfl ?_
      refine r_iconst (v := 1) dX5_worth_174 rfl ?_
      refine r_isub dX5_worth_175 ?_
      refine r_rw (y := nI t.length) (nI_pred _) ?_
      refine r_ialdN dX5_worth_176 (ly_24 hE) (by simp only [List.length_cons] at hsl; omega) (by decide) ?_
      refine r_rw (y := q) (show va_up A 24 g 24 t.length = q by rw [va_up_eq]; exact hq) ?_
      refine r_if_ne (tgt := 184) dX5_worth_177 (by decide) (fun b177 => ?_) (fun b177 => ?_)
      · refine r_iconst (v := 0) dX5_worth_184 rfl ?_
        refine r_goto (tgt := 198) dX5_worth_185 (by decide) ?_
        refine r_iastN dX5_worth_198 (ly_24 hE) (by simp only [List.length_cons] at hsl; omega) (by decide) ?_
        refine r_goto (tgt := 243) dX5_worth_199 (by decide) ?_
        refine r_iinc (v := (nI (i + 1))) (loc' := [(6, .int (nI (i + 1))), (7, .int (-7)), (5, .int (nI (t.length + 1))), (4, .int (nI e)), (0, .ref 3), (1, .int (nI r)), (2, .int (nI part)), (3, .ref 26)]) dX5_worth_243 rfl ((nI_succ _).symm) (by decide) rfl ?_
        refine r_goto (tgt := 63) dX5_worth_246 (by decide) ?_
        refine qG.pick [0, 2, 3, 4, 5, 6, 7] rfl ?_
        rw [s2_up]
        rw [ej, rst_not] at h
        first | (rw [yn_t b177] at h; exact ih (i + 1) (1 :: t) _ (by omega) (by simp only [List.length_cons] at hsl ⊢; omega) hok' (sk_push hs.2) h) | (rw [yn_f b177] at h; exact ih (i + 1) (0 :: t) _ (by omega) (by simp only [List.length_cons] at hsl ⊢; omega) hok' (sk_push hs.2) h)
      · refine r_iconst (v := 1) dX5_worth_180 rfl ?_
        refine r_goto (tgt := 198) dX5_worth_181 (by decide) ?_
        refine r_iastN dX5_worth_198 (ly_24 hE) (by simp only [List.length_cons] at hsl; omega) (by decide) ?_
        refine r_goto (tgt := 243) dX5_worth_199 (by decide) ?_
        refine r_iinc (v := (nI (i + 1))) (loc' := [(6, .int (nI (i + 1))), (7, .int (-7)), (5, .int (nI (t.length + 1))), (4, .int (nI e)), (0, .ref 3), (1, .int (nI r)), (2, .int (nI part)), (3, .ref 26)]) dX5_worth_243 rfl ((nI_succ _).symm) (by decide) rfl ?_
        refine r_goto (tgt := 63) dX5_worth_246 (by decide) ?_
        refine qG.pick [0, 2, 3, 4, 5, 6, 7] rfl ?_
        rw [s2_up]
        rw [ej, rst_not] at h
        first | (rw [yn_t b177] at h; exact ih (i + 1) (1 :: t) _ (by omega) (by simp only [List.length_cons] at hsl ⊢; omega) hok' (sk_push hs.2) h) | (rw [yn_f b177] at h; exact ih (i + 1) (0 :: t) _ (by omega) (by simp only [List.length_cons] at hsl ⊢; omega) hok' (sk_push hs.2) h)
    · obtain ⟨hpos, hok'⟩ := rok_un hok (Or.inr ej)
      obtain ⟨q, t, rfl⟩ := len1 hpos
      have hq : g t.length = q := hs.1
      refine r_iload dX5_worth_63 rfl ?_
      refine r_iload dX5_worth_65 rfl ?_
      refine r_icmp_ge (tgt := 249) dX5_worth_67 (by decide) (fun hn => absurd hn (nI_ge hie (by omega))) (fun _ => ?_)
      refine r_iload dX5_worth_70 rfl ?_
      refine r_sipush (v := 160) dX5_worth_72 rfl ?_
      refine r_callN2 dX5_worth_75 lk_X5_28 (Nat.le_of_ble_eq_true rfl) (sp_X6_within 160 rfl (by decide) (fun _ _ _ => ?_) (fun hn => absurd rfl (hn i (by omega))))
      refine r_if_eq (tgt := 249) dX5_worth_78 (by decide) (fun hn => absurd hn (by decide)) (fun _ => ?_)
      refine r_aload_n dX5_worth_81 rfl ?_
      refine r_getR dX5_worth_82 fl_X5_9 (ly_3 hE) rfl ?_
      refine r_iload_n dX5_worth_85 rfl ?_
      refine r_sipush (v := 160) dX5_worth_86 rfl ?_
      refine r_imul dX5_worth_89 ?_
      refine r_iload dX5_worth_90 rfl ?_
      refine r_iadd dX5_worth_92 ?_
      refine r_rw (y := nI (160 * r + i)) (show nI r * nI 160 + nI i = _ by rw [pk_mul, nI_add, Nat.mul_comm]) ?_
      refine r_ialdN dX5_worth_93 (ly_22 hE) (by omega) (by decide) ?_
      refine r_rw (y := (-8)) ((show va_up A 24 g 22 (160 * r + i) = enc (f i) from hfi).trans (by rw [ej]; decide)) ?_
      refine r_istore (loc' := [(7, .int (-8)), (6, .int (nI i)), (5, .int (nI (t.length + 1))), (4, .int (nI e)), (0, .ref 3), (1, .int (nI r)), (2, .int (nI part)), (3, .ref 26)]) dX5_worth_94 (by decide) rfl ?_
      refine r_iload dX5_worth_96 rfl ?_
      refine r_bipush (v := (-6)) dX5_worth_98 rfl ?_
      refine r_icmp_lt (tgt := 140) dX5_worth_100 (by decide) (fun _ => ?_) (fun hn => absurd (by decide) hn)
      refine r_iload dX5_worth_140 rfl ?_
      refine r_bipush (v := (-8)) dX5_worth_142 rfl ?_
      refine r_icmp_lt (tgt := 202) dX5_worth_144 (by decide) (fun hn => absurd hn (by decide)) (fun _ => ?_)
      refine r_iload dX5_worth_147 rfl ?_
      refine r_iconst (v := 1) dX5_worth_149 rfl ?_
      refine r_icmp_lt (tgt := 202) dX5_worth_150 (by decide) (fun hn => absurd hn (show ¬ nI (t.length + 1) < nI 1 from nI_nlt (by omega) (by simp only [List.length_cons] at hsl; omega))) (fun _ => ?_)
      refine r_aload_n dX5_worth_153 rfl ?_
      refine r_getR dX5_worth_154 fl_X5_18 (ly_3 hE) rfl ?_
      refine r_iload dX5_worth_157 rfl ?_
      refine r_iconst (v := 1) dX5_worth_159 rfl ?_
      refine r_isub dX5_worth_160 ?_
      refine r_rw (y := nI t.length) (nI_pred _) ?_
      refine r_iload dX5_worth_161 rfl ?_
      refine r_bipush (v := (-7)) dX5_worth_163 rfl ?_
      refine r_icmp_ne (tgt := 188) dX5_worth_165 (by decide) (fun _ => ?_) (fun hn => absurd hn (by decide))
      refine r_aload_n dX5_worth_188 rfl ?_
      refine r_getR dX5_worth_189 fl_X5_18 (ly_3 hE) rfl ?_
      refine r_iload dX5_worth_192 rfl ?_
      refine r_iconst (v := 1) dX5_worth_194 rfl ?_
      refine r_isub dX5_worth_195 ?_
      refine r_rw (y := nI t.length) (nI_pred _) ?_
      refine r_ialdN dX5_worth_196 (ly_24 hE) (by simp only [List.length_cons] at hsl; omega) (by decide) ?_
      refine r_rw (y := q) (show va_up A 24 g 24 t.length = q by rw [va_up_eq]; exact hq) ?_
      refine r_ineg dX5_worth_197 ?_
      refine r_iastN dX5_worth_198 (ly_24 hE) (by simp only [List.length_cons] at hsl; omega) (by decide) ?_
      refine r_goto (tgt := 243) dX5_worth_199 (by decide) ?_
      refine r_iinc (v := (nI (i + 1))) (loc' := [(6, .int (nI (i + 1))), (7, .int (-8)), (5, .int (nI (t.length + 1))), (4, .int (nI e)), (0, .ref 3), (1, .int (nI r)), (2, .int (nI part)), (3, .ref 26)]) dX5_worth_243 rfl ((nI_succ _).symm) (by decide) rfl ?_
      refine r_goto (tgt := 63) dX5_worth_246 (by decide) ?_
      refine qG.pick [0, 2, 3, 4, 5, 6, 7] rfl ?_
      rw [s2_up]
      rw [ej, rst_neg] at h
      exact ih (i + 1) (-q :: t) _ (by omega) (by simp only [List.length_cons] at hsl ⊢; omega) hok' (sk_push hs.2) h
    · obtain ⟨hpos, hok'⟩ := rok_bop hok hb
      obtain ⟨q, p, t, rfl⟩ := len2 hpos
      have hq : g (t.length + 1) = q := hs.1
      have hp' : g t.length = p := hs.2.1
      obtain ⟨b1, b2⟩ := enc_bop hb
      refine r_iload dX5_worth_63 rfl ?_
      refine r_iload dX5_worth_65 rfl ?_
      refine r_icmp_ge (tgt := 249) dX5_worth_67 (by decide) (fun hn => absurd hn (nI_ge hie (by omega))) (fun _ => ?_)
      refine r_iload dX5_worth_70 rfl ?_
      refine r_sipush (v := 160) dX5_worth_72 rfl ?_
      refine r_callN2 dX5_worth_75 lk_X5_28 (Nat.le_of_ble_eq_true rfl) (sp_X6_within 160 rfl (by decide) (fun _ _ _ => ?_) (fun hn => absurd rfl (hn i (by omega))))
      refine r_if_eq (tgt := 249) dX5_worth_78 (by decide) (fun hn => absurd hn (by decide)) (fun _ => ?_)
      refine r_aload_n dX5_worth_81 rfl ?_
      refine r_getR dX5_worth_82 fl_X5_9 (ly_3 hE) rfl ?_
      refine r_iload_n dX5_worth_85 rfl ?_
      refine r_sipush (v := 160) dX5_worth_86 rfl ?_
      refine r_imul dX5_worth_89 ?_
      refine r_iload dX5_worth_90 rfl ?_
      refine r_iadd dX5_worth_92 ?_
      refine r_rw (y := nI (160 * r + i)) (show nI r * nI 160 + nI i = _ by rw [pk_mul, nI_add, Nat.mul_comm]) ?_
      refine r_ialdN dX5_worth_93 (ly_22 hE) (by omega) (by decide) ?_
      refine r_rw (y := enc (f i)) (show va_up A 24 g 22 (160 * r + i) = enc (f i) from hfi) ?_
      generalize ec : enc (f i) = c2 at b1 b2 ⊢
      refine r_istore (loc' := [(7, .int c2), (6, .int (nI i)), (5, .int (nI (t.length + 2))), (4, .int (nI e)), (0, .ref 3), (1, .int (nI r)), (2, .int (nI part)), (3, .ref 26)]) dX5_worth_94 (by decide) rfl ?_
      refine r_iload dX5_worth_96 rfl ?_
      refine r_bipush (v := (-6)) dX5_worth_98 rfl ?_
      refine r_icmp_lt (tgt := 140) dX5_worth_100 (by decide) (fun _ => ?_) (fun hn => absurd b2 hn)
      refine r_iload dX5_worth_140 rfl ?_
      refine r_bipush (v := (-8)) dX5_worth_142 rfl ?_
      refine r_icmp_lt (tgt := 202) dX5_worth_144 (by decide) (fun _ => ?_) (fun hn => absurd b1 hn)
      refine r_iload dX5_worth_202 rfl ?_
      refine r_iconst (v := 2) dX5_worth_204 rfl ?_
      refine r_icmp_lt (tgt := 243) dX5_worth_205 (by decide) (fun hn => absurd hn (show ¬ nI (t.length + 2) < nI 2 from nI_nlt (by omega) (by simp only [List.length_cons] at hsl; omega))) (fun _ => ?_)
      refine r_aload_n dX5_worth_208 rfl ?_
      refine r_getR dX5_worth_209 fl_X5_18 (ly_3 hE) rfl ?_
      refine r_iload dX5_worth_212 rfl ?_
      refine r_iconst (v := 2) dX5_worth_214 rfl ?_
      refine r_isub dX5_worth_215 ?_
      refine r_rw (y := nI t.length) (show nI (t.length + 2) - nI 2 = _ by rw [pk_sub (by omega)]; rfl) ?_
      refine r_iload dX5_worth_216 rfl ?_
      refine r_aload_n dX5_worth_218 rfl ?_
      refine r_getR dX5_worth_219 fl_X5_18 (ly_3 hE) rfl ?_
      refine r_iload dX5_worth_222 rfl ?_
      refine r_iconst (v := 2) dX5_worth_224 rfl ?_
      refine r_isub dX5_worth_225 ?_
      refine r_rw (y := nI t.length) (show nI (t.length + 2) - nI 2 = _ by rw [pk_sub (by omega)]; rfl) ?_
      refine r_ialdN dX5_worth_226 (ly_24 hE) (by simp only [List.length_cons] at hsl; omega) (by decide) ?_
      refine r_rw (y := p) (show va_up A 24 g 24 t.length = p by rw [va_up_eq]; exact hp') ?_
      refine r_aload_n dX5_worth_227 rfl ?_
      refine r_getR dX5_worth_228 fl_X5_18 (ly_3 hE) rfl ?_
      refine r_iload dX5_worth_231 rfl ?_
      refine r_iconst (v := 1) dX5_worth_233 rfl ?_
      refine r_isub dX5_worth_234 ?_
      refine r_rw (y := nI (t.length + 1)) (nI_pred _) ?_
      refine r_ialdN dX5_worth_235 (ly_24 hE) (by simp only [List.length_cons] at hsl; omega) (by decide) ?_
      refine r_rw (y := q) (show va_up A 24 g 24 (t.length + 1) = q by rw [va_up_eq]; exact hq) ?_
      subst ec
      refine r_callS3 dX5_worth_236 lk_X5_38 (Nat.le_of_ble_eq_true rfl) (sp_X5_joined hb ?_)
      refine r_iastN dX5_worth_239 (ly_24 hE) (by simp only [List.length_cons] at hsl; omega) (by decide) ?_
      refine r_iinc (v := (nI (t.length + 1))) (loc' := [(5, .int (nI (t.length + 1))), (7, .int (enc (f i))), (6, .int (nI i)), (4, .int (nI e)), (0, .ref 3), (1, .int (nI r)), (2, .int (nI part)), (3, .ref 26)]) dX5_worth_240 rfl (pk_m1 _) (by decide) rfl ?_
      refine r_iinc (v := (nI (i + 1))) (loc' := [(6, .int (nI (i + 1))), (5, .int (nI (t.length + 1))), (7, .int (enc (f i))), (4, .int (nI e)), (0, .ref 3), (1, .int (nI r)), (2, .int (nI part)), (3, .ref 26)]) dX5_worth_243 rfl ((nI_succ _).symm) (by decide) rfl ?_
      refine r_goto (tgt := 63) dX5_worth_246 (by decide) ?_
      refine qG.pick [0, 1, 3, 4, 5, 6, 7] rfl ?_
      rw [s2_up]
      rw [rst_bop hb] at h
      exact ih (i + 1) (dd (f i) p q :: t) _ (by omega) (by simp only [List.length_cons] at hsl ⊢; omega) hok' (sk_push hs.2.2) h
set_option maxRecDepth 100000 in
set_option maxHeartbeats 4000000 in
theorem sp_X5_worth (hE : hC E) (r part st e : Nat) (hr : r < 6) (hp : part < 3) (hst : part ≠ 0 → A 23 (3 * r + part - 1) = nI st) (hst0 : part = 0 → st = 0) (he : A 23 (3 * r + part) = nI e) (hse : st ≤ e) (he2 : e ≤ 160) {f nv : Nat → Int32} (hf : ∀ i, i < e → A 22 (160 * r + i) = enc (f i)) (hnv : ∀ k, k < 6 → A 26 k = nv k) (hok : rok f st (e - st) 0)
    (h : ∀ g, Ph (some (.int ((rev nv f st (e - st) []).headD 0))) (va_up A 24 g) L) : qC E mm_X5_worth (d + 1) [.ref 3, .int (nI r), .int (nI part), .ref 26] A L Ph := by
  refine qC.enter (by decide) (Nat.le_of_ble_eq_true rfl) ?_
  have K := worth_loop (d := d) (L := L) (Ph := Ph) (A := A) (part := part) hE hr he2 hf hnv (e - st) st [] (A 24) (by omega) (Nat.zero_le _) hok trivial h
  rw [up_self] at K
  rcases (show part = 0 ∨ part = 1 ∨ part = 2 by omega) with rfl | rfl | rfl
  · refine r_iload_n dX5_worth_0 rfl ?_
    refine r_bipush (v := 6) dX5_worth_1 rfl ?_
    refine r_callN2 dX5_worth_3 lk_X5_28 (Nat.le_of_ble_eq_true rfl) (sp_X6_within 6 rfl (by decide) (fun _ _ _ => ?_) (fun hn => absurd rfl (hn r hr)))
    refine r_if_eq (tgt := 24) dX5_worth_6 (by decide) (fun hn => absurd hn (by decide)) (fun _ => ?_)
    refine r_iload_n dX5_worth_9 rfl ?_
    refine r_iconst (v := 3) dX5_worth_10 rfl ?_
    refine r_callN2 dX5_worth_11 lk_X5_28 (Nat.le_of_ble_eq_true rfl) (sp_X6_within 3 rfl (by decide) (fun _ _ _ => ?_) (fun hn => absurd rfl (hn 0 (by decide))))
    refine r_if_eq (tgt := 24) dX5_worth_14 (by decide) (fun hn => absurd hn (by decide)) (fun _ => ?_)
    refine r_aload_n dX5_worth_17 rfl ?_
    refine r_alen (v := 6) dX5_worth_18 (ly_26 hE) (by decide) rfl ?_
    refine r_bipush (v := 6) dX5_worth_19 rfl ?_
    refine r_icmp_ge (tgt := 26) dX5_worth_21 (by decide) (fun _ => ?_) (fun hn => absurd (by decide) hn)
    refine r_aload_n dX5_worth_26 rfl ?_
    refine r_getR dX5_worth_27 fl_X5_15 (ly_3 hE) rfl ?_
    refine r_iload_n dX5_worth_30 rfl ?_
    refine r_iconst (v := 3) dX5_worth_31 rfl ?_
    refine r_imul dX5_worth_32 ?_
    refine r_iload_n dX5_worth_33 rfl ?_
    refine r_iadd dX5_worth_34 ?_
    refine r_rw (y := nI (3 * r + 0)) (show nI r * nI 3 + nI 0 = _ by rw [pk_mul, nI_add, Nat.mul_comm]) ?_
    refine r_ialdN dX5_worth_35 (ly_23 hE) (by omega) (by decide) ?_
    refine r_rw (y := nI e) he ?_
    refine r_istore (loc' := [(4, .int (nI e)), (0, .ref 3), (1, .int (nI r)), (2, .int (nI 0)), (3, .ref 26)]) dX5_worth_36 (by decide) rfl ?_
    refine r_iconst (v := 0) dX5_worth_38 rfl ?_
    refine r_istore (loc' := [(5, .int 0), (4, .int (nI e)), (0, .ref 3), (1, .int (nI r)), (2, .int (nI 0)), (3, .ref 26)]) dX5_worth_39 (by decide) rfl ?_
    refine r_iload_n dX5_worth_41 rfl ?_
    refine r_if_ne (tgt := 49) dX5_worth_42 (by decide) (fun hn => absurd (by decide) hn) (fun _ => ?_)
    refine r_iconst (v := 0) dX5_worth_45 rfl ?_
    refine r_rw (y := nI st) (by rw [hst0 rfl]; rfl) ?_
    refine r_goto (tgt := 61) dX5_worth_46 (by decide) ?_
    refine r_istore (loc' := [(6, .int (nI st)), (5, .int 0), (4, .int (nI e)), (0, .ref 3), (1, .int (nI r)), (2, .int (nI 0)), (3, .ref 26)]) dX5_worth_61 (by decide) rfl ?_
    exact K
  · refine r_iload_n dX5_worth_0 rfl ?_
    refine r_bipush (v := 6) dX5_worth_1 rfl ?_
    refine r_callN2 dX5_worth_3 lk_X5_28 (Nat.le_of_ble_eq_true rfl) (sp_X6_within 6 rfl (by decide) (fun _ _ _ => ?_) (fun hn => absurd rfl (hn r hr)))
    refine r_if_eq (tgt := 24) dX5_worth_6 (by decide) (fun hn => absurd hn (by decide)) (fun _ => ?_)
    refine r_iload_n dX5_worth_9 rfl ?_
    refine r_iconst (v := 3) dX5_worth_10 rfl ?_
    refine r_callN2 dX5_worth_11 lk_X5_28 (Nat.le_of_ble_eq_true rfl) (sp_X6_within 3 rfl (by decide) (fun _ _ _ => ?_) (fun hn => absurd rfl (hn 1 (by decide))))
    refine r_if_eq (tgt := 24) dX5_worth_14 (by decide) (fun hn => absurd hn (by decide)) (fun _ => ?_)
    refine r_aload_n dX5_worth_17 rfl ?_
    refine r_alen (v := 6) dX5_worth_18 (ly_26 hE) (by decide) rfl ?_
    refine r_bipush (v := 6) dX5_worth_19 rfl ?_
    refine r_icmp_ge (tgt := 26) dX5_worth_21 (by decide) (fun _ => ?_) (fun hn => absurd (by decide) hn)
    refine r_aload_n dX5_worth_26 rfl ?_
    refine r_getR dX5_worth_27 fl_X5_15 (ly_3 hE) rfl ?_
    refine r_iload_n dX5_worth_30 rfl ?_
    refine r_iconst (v := 3) dX5_worth_31 rfl ?_
    refine r_imul dX5_worth_32 ?_
    refine r_iload_n dX5_worth_33 rfl ?_
    refine r_iadd dX5_worth_34 ?_
    refine r_rw (y := nI (3 * r + 1)) (show nI r * nI 3 + nI 1 = _ by rw [pk_mul, nI_add, Nat.mul_comm]) ?_
    refine r_ialdN dX5_worth_35 (ly_23 hE) (by omega) (by decide) ?_
    refine r_rw (y := nI e) he ?_
    refine r_istore (loc' := [(4, .int (nI e)), (0, .ref 3), (1, .int (nI r)), (2, .int (nI 1)), (3, .ref 26)]) dX5_worth_36 (by decide) rfl ?_
    refine r_iconst (v := 0) dX5_worth_38 rfl ?_
    refine r_istore (loc' := [(5, .int 0), (4, .int (nI e)), (0, .ref 3), (1, .int (nI r)), (2, .int (nI 1)), (3, .ref 26)]) dX5_worth_39 (by decide) rfl ?_
    refine r_iload_n dX5_worth_41 rfl ?_
    refine r_if_ne (tgt := 49) dX5_worth_42 (by decide) (fun _ => ?_) (fun hn => absurd hn (by decide))
    refine r_aload_n dX5_worth_49 rfl ?_
    refine r_getR dX5_worth_50 fl_X5_15 (ly_3 hE) rfl ?_
    refine r_iload_n dX5_worth_53 rfl ?_
    refine r_iconst (v := 3) dX5_worth_54 rfl ?_
    refine r_imul dX5_worth_55 ?_
    refine r_iload_n dX5_worth_56 rfl ?_
    refine r_iadd dX5_worth_57 ?_
    refine r_iconst (v := 1) dX5_worth_58 rfl ?_
    refine r_isub dX5_worth_59 ?_
    refine r_rw (y := nI (3 * r + 1 - 1)) (show nI r * nI 3 + nI 1 - nI 1 = _ by rw [pk_mul, nI_add, Nat.mul_comm, pk_sub (by omega)]) ?_
    refine r_ialdN dX5_worth_60 (ly_23 hE) (by omega) (by decide) ?_
    refine r_rw (y := nI st) (hst (by decide)) ?_
    refine r_istore (loc' := [(6, .int (nI st)), (5, .int 0), (4, .int (nI e)), (0, .ref 3), (1, .int (nI r)), (2, .int (nI 1)), (3, .ref 26)]) dX5_worth_61 (by decide) rfl ?_
    exact K
  · refine r_iload_n dX5_worth_0 rfl ?_
    refine r_bipush (v := 6) dX5_worth_1 rfl ?_
    refine r_callN2 dX5_worth_3 lk_X5_28 (Nat.le_of_ble_eq_true rfl) (sp_X6_within 6 rfl (by decide) (fun _ _ _ => ?_) (fun hn => absurd rfl (hn r hr)))
    refine r_if_eq (tgt := 24) dX5_worth_6 (by decide) (fun hn => absurd hn (by decide)) (fun _ => ?_)
    refine r_iload_n dX5_worth_9 rfl ?_
    refine r_iconst (v := 3) dX5_worth_10 rfl ?_
    refine r_callN2 dX5_worth_11 lk_X5_28 (Nat.le_of_ble_eq_true rfl) (sp_X6_within 3 rfl (by decide) (fun _ _ _ => ?_) (fun hn => absurd rfl (hn 2 (by decide))))
    refine r_if_eq (tgt := 24) dX5_worth_14 (by decide) (fun hn => absurd hn (by decide)) (fun _ => ?_)
    refine r_aload_n dX5_worth_17 rfl ?_
    refine r_alen (v := 6) dX5_worth_18 (ly_26 hE) (by decide) rfl ?_
    refine r_bipush (v := 6) dX5_worth_19 rfl ?_
    refine r_icmp_ge (tgt := 26) dX5_worth_21 (by decide) (fun _ => ?_) (fun hn => absurd (by decide) hn)
    refine r_aload_n dX5_worth_26 rfl ?_
    refine r_getR dX5_worth_27 fl_X5_15 (ly_3 hE) rfl ?_
    refine r_iload_n dX5_worth_30 rfl ?_
    refine r_iconst (v := 3) dX5_worth_31 rfl ?_
    refine r_imul dX5_worth_32 ?_
    refine r_iload_n dX5_worth_33 rfl ?_
    refine r_iadd dX5_worth_34 ?_
    refine r_rw (y := nI (3 * r + 2)) (show nI r * nI 3 + nI 2 = _ by rw [pk_mul, nI_add, Nat.mul_comm]) ?_
    refine r_ialdN dX5_worth_35 (ly_23 hE) (by omega) (by decide) ?_
    refine r_rw (y := nI e) he ?_
    refine r_istore (loc' := [(4, .int (nI e)), (0, .ref 3), (1, .int (nI r)), (2, .int (nI 2)), (3, .ref 26)]) dX5_worth_36 (by decide) rfl ?_
    refine r_iconst (v := 0) dX5_worth_38 rfl ?_
    refine r_istore (loc' := [(5, .int 0), (4, .int (nI e)), (0, .ref 3), (1, .int (nI r)), (2, .int (nI 2)), (3, .ref 26)]) dX5_worth_39 (by decide) rfl ?_
    refine r_iload_n dX5_worth_41 rfl ?_
    refine r_if_ne (tgt := 49) dX5_worth_42 (by decide) (fun _ => ?_) (fun hn => absurd hn (by decide))
    refine r_aload_n dX5_worth_49 rfl ?_
    refine r_getR dX5_worth_50 fl_X5_15 (ly_3 hE) rfl ?_
    refine r_iload_n dX5_worth_53 rfl ?_
    refine r_iconst (v := 3) dX5_worth_54 rfl ?_
    refine r_imul dX5_worth_55 ?_
    refine r_iload_n dX5_worth_56 rfl ?_
    refine r_iadd dX5_worth_57 ?_
    refine r_iconst (v := 1) dX5_worth_58 rfl ?_
    refine r_isub dX5_worth_59 ?_
    refine r_rw (y := nI (3 * r + 2 - 1)) (show nI r * nI 3 + nI 2 - nI 1 = _ by rw [pk_mul, nI_add, Nat.mul_comm, pk_sub (by omega)]) ?_
    refine r_ialdN dX5_worth_60 (ly_23 hE) (by omega) (by decide) ?_
    refine r_rw (y := nI st) (hst (by decide)) ?_
    refine r_istore (loc' := [(6, .int (nI st)), (5, .int 0), (4, .int (nI e)), (0, .ref 3), (1, .int (nI r)), (2, .int (nI 2)), (3, .ref 26)]) dX5_worth_61 (by decide) rfl ?_
    exact K
end TELL2
