/-! what a text tells: the reference's tell, the class's worth -/
theorem dd_or (a b : Int32) : dd (-20) a b = yn (a ≠ 0 ∨ b ≠ 0) := rfl
theorem dd_and (a b : Int32) : dd (-21) a b = yn (a ≠ 0 ∧ b ≠ 0) := rfl
theorem dd_lt (a b : Int32) : dd (-23) a b = yn (a < b) := rfl
theorem dd_eq (a b : Int32) : dd (-24) a b = yn (a = b) := rfl
theorem dd_pl (a b : Int32) : dd (-25) a b = a + b := rfl
theorem dd_mi (a b : Int32) : dd (-26) a b = a - b := rfl
theorem dd_ti (a b : Int32) : dd (-27) a b = a * b := rfl
theorem yn_t {c : Prop} [Decidable c] (h : c) : yn c = 1 := if_pos h
theorem yn_f {c : Prop} [Decidable c] (h : ¬ c) : yn c = 0 := if_neg h
theorem len1 : ∀ {s : List Int32}, 0 < s.length → ∃ q t, s = q :: t
  | q :: t, _ => ⟨q, t, rfl⟩
theorem len2 : ∀ {s : List Int32}, 2 ≤ s.length → ∃ q p t, s = q :: p :: t
  | [], h => absurd h (by decide)
  | [_], h => absurd h (by simp)
  | q :: p :: t, _ => ⟨q, p, t, rfl⟩
section TELL
variable {E : mE} {d : Nat} {A : mA} {L : mJ} {Ph : mP}
theorem sp_yes1 (h : Ph (some (.int 1)) A L) : qC E mm_X7_yes d [.int 1] A L Ph := by
  refine qC.enter (by decide) (Nat.le_of_ble_eq_true rfl) ?_
  refine r_iload_n dX7_yes_0 rfl ?_
  refine r_if_eq (tgt := 8) dX7_yes_1 (by decide) (fun hn => absurd hn (by decide)) (fun _ => ?_)
  refine r_iconst (v := 1) dX7_yes_4 rfl ?_
  refine r_goto (tgt := 9) dX7_yes_5 (by decide) ?_
  refine r_ireturn dX7_yes_9 rfl rfl ?_
  exact h
theorem sp_yes0 (h : Ph (some (.int 0)) A L) : qC E mm_X7_yes d [.int 0] A L Ph := by
  refine qC.enter (by decide) (Nat.le_of_ble_eq_true rfl) ?_
  refine r_iload_n dX7_yes_0 rfl ?_
  refine r_if_eq (tgt := 8) dX7_yes_1 (by decide) (fun _ => ?_) (fun hn => absurd (by decide) hn)
  refine r_iconst (v := 0) dX7_yes_8 rfl ?_
  refine r_ireturn dX7_yes_9 rfl rfl ?_
  exact h
theorem sp_X7_deed {c a b : Int32} (hb : bop c) (h : Ph (some (.int (dd c a b))) A L) : qC E mm_X7_deed (d + 1) [.int c, .int a, .int b] A L Ph := by
  refine qC.enter (by decide) (Nat.le_of_ble_eq_true rfl) ?_
  rcases hb with rfl | rfl | rfl | rfl | rfl | rfl | rfl
  · refine r_iload_n dX7_deed_0 rfl ?_
    refine r_tableIn (off := 43) (tgt := 44) dX7_deed_1 (by decide) (by decide) rfl (by decide) ?_
    refine r_iload_n dX7_deed_44 rfl ?_
    refine r_if_ne (tgt := 52) dX7_deed_45 (by decide) (fun b45 => ?_) (fun b45 => ?_)
    · refine r_iconst (v := 1) dX7_deed_52 rfl ?_
      refine r_goto (tgt := 57) dX7_deed_53 (by decide) ?_
      refine r_callS1 dX7_deed_57 lk_X7_183 (Nat.le_of_ble_eq_true rfl) (sp_yes1 ?_)
      refine r_ireturn dX7_deed_60 rfl rfl ?_
      first | rwa [dd_or, yn_t (by simp_all [i_lt, i_le])] at h | rwa [dd_or, yn_f (by simp_all [i_lt, i_le])] at h
    · refine r_iload_n dX7_deed_48 rfl ?_
      refine r_if_eq (tgt := 56) dX7_deed_49 (by decide) (fun b49 => ?_) (fun b49 => ?_)
      · refine r_iconst (v := 0) dX7_deed_56 rfl ?_
        refine r_callS1 dX7_deed_57 lk_X7_183 (Nat.le_of_ble_eq_true rfl) (sp_yes0 ?_)
        refine r_ireturn dX7_deed_60 rfl rfl ?_
        first | rwa [dd_or, yn_t (by simp_all [i_lt, i_le])] at h | rwa [dd_or, yn_f (by simp_all [i_lt, i_le])] at h
      · refine r_iconst (v := 1) dX7_deed_52 rfl ?_
        refine r_goto (tgt := 57) dX7_deed_53 (by decide) ?_
        refine r_callS1 dX7_deed_57 lk_X7_183 (Nat.le_of_ble_eq_true rfl) (sp_yes1 ?_)
        refine r_ireturn dX7_deed_60 rfl rfl ?_
        first | rwa [dd_or, yn_t (by simp_all [i_lt, i_le])] at h | rwa [dd_or, yn_f (by simp_all [i_lt, i_le])] at h
  · refine r_iload_n dX7_deed_0 rfl ?_
    refine r_tableIn (off := 60) (tgt := 61) dX7_deed_1 (by decide) (by decide) rfl (by decide) ?_
    refine r_iload_n dX7_deed_61 rfl ?_
    refine r_if_eq (tgt := 73) dX7_deed_62 (by decide) (fun b62 => ?_) (fun b62 => ?_)
    · refine r_iconst (v := 0) dX7_deed_73 rfl ?_
      refine r_callS1 dX7_deed_74 lk_X7_183 (Nat.le_of_ble_eq_true rfl) (sp_yes0 ?_)
      refine r_ireturn dX7_deed_77 rfl rfl ?_
      first | rwa [dd_and, yn_t (by simp_all [i_lt, i_le])] at h | rwa [dd_and, yn_f (by simp_all [i_lt, i_le])] at h
    · refine r_iload_n dX7_deed_65 rfl ?_
      refine r_if_eq (tgt := 73) dX7_deed_66 (by decide) (fun b66 => ?_) (fun b66 => ?_)
      · refine r_iconst (v := 0) dX7_deed_73 rfl ?_
        refine r_callS1 dX7_deed_74 lk_X7_183 (Nat.le_of_ble_eq_true rfl) (sp_yes0 ?_)
        refine r_ireturn dX7_deed_77 rfl rfl ?_
        first | rwa [dd_and, yn_t (by simp_all [i_lt, i_le])] at h | rwa [dd_and, yn_f (by simp_all [i_lt, i_le])] at h
      · refine r_iconst (v := 1) dX7_deed_69 rfl ?_
        refine r_goto (tgt := 74) dX7_deed_70 (by decide) ?_
        refine r_callS1 dX7_deed_74 lk_X7_183 (Nat.le_of_ble_eq_true rfl) (sp_yes1 ?_)
        refine r_ireturn dX7_deed_77 rfl rfl ?_
        first | rwa [dd_and, yn_t (by simp_all [i_lt, i_le])] at h | rwa [dd_and, yn_f (by simp_all [i_lt, i_le])] at h
  · refine r_iload_n dX7_deed_0 rfl ?_
    refine r_tableIn (off := 77) (tgt := 78) dX7_deed_1 (by decide) (by decide) rfl (by decide) ?_
    refine r_iload_n dX7_deed_78 rfl ?_
    refine r_iload_n dX7_deed_79 rfl ?_
    refine r_icmp_ge (tgt := 87) dX7_deed_80 (by decide) (fun b80 => ?_) (fun b80 => ?_)
    · refine r_iconst (v := 0) dX7_deed_87 rfl ?_
      refine r_callS1 dX7_deed_88 lk_X7_183 (Nat.le_of_ble_eq_true rfl) (sp_yes0 ?_)
      refine r_ireturn dX7_deed_91 rfl rfl ?_
      first | rwa [dd_lt, yn_t (by simp_all [i_lt, i_le])] at h | rwa [dd_lt, yn_f (by simp_all [i_lt, i_le])] at h
    · refine r_iconst (v := 1) dX7_deed_83 rfl ?_
      refine r_goto (tgt := 88) dX7_deed_84 (by decide) ?_
      refine r_callS1 dX7_deed_88 lk_X7_183 (Nat.le_of_ble_eq_true rfl) (sp_yes1 ?_)
      refine r_ireturn dX7_deed_91 rfl rfl ?_
      first | rwa [dd_lt, yn_t (by simp_all [i_lt, i_le])] at h | rwa [dd_lt, yn_f (by simp_all [i_lt, i_le])] at h
  · refine r_iload_n dX7_deed_0 rfl ?_
    refine r_tableIn (off := 91) (tgt := 92) dX7_deed_1 (by decide) (by decide) rfl (by decide) ?_
    refine r_iload_n dX7_deed_92 rfl ?_
    refine r_iload_n dX7_deed_93 rfl ?_
    refine r_icmp_ne (tgt := 101) dX7_deed_94 (by decide) (fun b94 => ?_) (fun b94 => ?_)
    · refine r_iconst (v := 0) dX7_deed_101 rfl ?_
      refine r_callS1 dX7_deed_102 lk_X7_183 (Nat.le_of_ble_eq_true rfl) (sp_yes0 ?_)
      refine r_ireturn dX7_deed_105 rfl rfl ?_
      first | rwa [dd_eq, yn_t (by simp_all [i_lt, i_le])] at h | rwa [dd_eq, yn_f (by simp_all [i_lt, i_le])] at h
    · refine r_iconst (v := 1) dX7_deed_97 rfl ?_
      refine r_goto (tgt := 102) dX7_deed_98 (by decide) ?_
      refine r_callS1 dX7_deed_102 lk_X7_183 (Nat.le_of_ble_eq_true rfl) (sp_yes1 ?_)
      refine r_ireturn dX7_deed_105 rfl rfl ?_
      first | rwa [dd_eq, yn_t (by simp_all [i_lt, i_le])] at h | rwa [dd_eq, yn_f (by simp_all [i_lt, i_le])] at h
  · refine r_iload_n dX7_deed_0 rfl ?_
    refine r_tableIn (off := 105) (tgt := 106) dX7_deed_1 (by decide) (by decide) rfl (by decide) ?_
    refine r_iload_n dX7_deed_106 rfl ?_
    refine r_iload_n dX7_deed_107 rfl ?_
    refine r_iadd dX7_deed_108 ?_
    refine r_ireturn dX7_deed_109 rfl rfl ?_
    rwa [dd_pl] at h
  · refine r_iload_n dX7_deed_0 rfl ?_
    refine r_tableIn (off := 109) (tgt := 110) dX7_deed_1 (by decide) (by decide) rfl (by decide) ?_
    refine r_iload_n dX7_deed_110 rfl ?_
    refine r_iload_n dX7_deed_111 rfl ?_
    refine r_isub dX7_deed_112 ?_
    refine r_ireturn dX7_deed_113 rfl rfl ?_
    rwa [dd_mi] at h
  · refine r_iload_n dX7_deed_0 rfl ?_
    refine r_tableOut (tgt := 114) dX7_deed_1 (by decide) (by decide) ?_
    refine r_iload_n dX7_deed_114 rfl ?_
    refine r_iload_n dX7_deed_115 rfl ?_
    refine r_imul dX7_deed_116 ?_
    refine r_ireturn dX7_deed_117 rfl rfl ?_
    rwa [dd_ti] at h
theorem sp_X5_joined {c a b : Int32} (hb : bop c) (h : Ph (some (.int (dd c a b))) A L) : qC E mm_X5_joined d [.int (enc c), .int a, .int b] A L Ph := by
  refine qC.enter (by decide) (Nat.le_of_ble_eq_true rfl) ?_
  rcases hb with rfl | rfl | rfl | rfl | rfl | rfl | rfl
  · show qG E mm_X5_joined d 0 [(0, .int (-9)), (1, .int a), (2, .int b)] [] A L Ph
    refine r_iload_n dX5_joined_0 rfl ?_
    refine r_tableIn (off := 39) (tgt := 40) dX5_joined_1 (by decide) (by decide) rfl (by decide) ?_
    refine r_iload_n dX5_joined_40 rfl ?_
    refine r_if_ne (tgt := 48) dX5_joined_41 (by decide) (fun b41 => ?_) (fun b41 => ?_)
    · refine r_iconst (v := 1) dX5_joined_48 rfl ?_
      refine r_goto (tgt := 53) dX5_joined_49 (by decide) ?_
      refine r_ireturn dX5_joined_53 rfl rfl ?_
      first | rwa [dd_or, yn_t (by simp_all [i_lt, i_le])] at h | rwa [dd_or, yn_f (by simp_all [i_lt, i_le])] at h
    · refine r_iload_n dX5_joined_44 rfl ?_
      refine r_if_eq (tgt := 52) dX5_joined_45 (by decide) (fun b45 => ?_) (fun b45 => ?_)
      · refine r_iconst (v := 0) dX5_joined_52 rfl ?_
        refine r_ireturn dX5_joined_53 rfl rfl ?_
        first | rwa [dd_or, yn_t (by simp_all [i_lt, i_le])] at h | rwa [dd_or, yn_f (by simp_all [i_lt, i_le])] at h
      · refine r_iconst (v := 1) dX5_joined_48 rfl ?_
        refine r_goto (tgt := 53) dX5_joined_49 (by decide) ?_
        refine r_ireturn dX5_joined_53 rfl rfl ?_
        first | rwa [dd_or, yn_t (by simp_all [i_lt, i_le])] at h | rwa [dd_or, yn_f (by simp_all [i_lt, i_le])] at h
  · show qG E mm_X5_joined d 0 [(0, .int (-10)), (1, .int a), (2, .int b)] [] A L Ph
    refine r_iload_n dX5_joined_0 rfl ?_
    refine r_tableIn (off := 53) (tgt := 54) dX5_joined_1 (by decide) (by decide) rfl (by decide) ?_
    refine r_iload_n dX5_joined_54 rfl ?_
    refine r_if_eq (tgt := 66) dX5_joined_55 (by decide) (fun b55 => ?_) (fun b55 => ?_)
    · refine r_iconst (v := 0) dX5_joined_66 rfl ?_
      refine r_ireturn dX5_joined_67 rfl rfl ?_
      first | rwa [dd_and, yn_t (by simp_all [i_lt, i_le])] at h | rwa [dd_and, yn_f (by simp_all [i_lt, i_le])] at h
    · refine r_iload_n dX5_joined_58 rfl ?_
      refine r_if_eq (tgt := 66) dX5_joined_59 (by decide) (fun b59 => ?_) (fun b59 => ?_)
      · refine r_iconst (v := 0) dX5_joined_66 rfl ?_
        refine r_ireturn dX5_joined_67 rfl rfl ?_
        first | rwa [dd_and, yn_t (by simp_all [i_lt, i_le])] at h | rwa [dd_and, yn_f (by simp_all [i_lt, i_le])] at h
      · refine r_iconst (v := 1) dX5_joined_62 rfl ?_
        refine r_goto (tgt := 67) dX5_joined_63 (by decide) ?_
        refine r_ireturn dX5_joined_67 rfl rfl ?_
        first | rwa [dd_and, yn_t (by simp_all [i_lt, i_le])] at h | rwa [dd_and, yn_f (by simp_all [i_lt, i_le])] at h
  · show qG E mm_X5_joined d 0 [(0, .int (-11)), (1, .int a), (2, .int b)] [] A L Ph
    refine r_iload_n dX5_joined_0 rfl ?_
    refine r_tableIn (off := 67) (tgt := 68) dX5_joined_1 (by decide) (by decide) rfl (by decide) ?_
    refine r_iload_n dX5_joined_68 rfl ?_
    refine r_iload_n dX5_joined_69 rfl ?_
    refine r_icmp_ge (tgt := 77) dX5_joined_70 (by decide) (fun b70 => ?_) (fun b70 => ?_)
    · refine r_iconst (v := 0) dX5_joined_77 rfl ?_
      refine r_ireturn dX5_joined_78 rfl rfl ?_
      first | rwa [dd_lt, yn_t (by simp_all [i_lt, i_le])] at h | rwa [dd_lt, yn_f (by simp_all [i_lt, i_le])] at h
    · refine r_iconst (v := 1) dX5_joined_73 rfl ?_
      refine r_goto (tgt := 78) dX5_joined_74 (by decide) ?_
      refine r_ireturn dX5_joined_78 rfl rfl ?_
      first | rwa [dd_lt, yn_t (by simp_all [i_lt, i_le])] at h | rwa [dd_lt, yn_f (by simp_all [i_lt, i_le])] at h
  · show qG E mm_X5_joined d 0 [(0, .int (-12)), (1, .int a), (2, .int b)] [] A L Ph
    refine r_iload_n dX5_joined_0 rfl ?_
    refine r_tableIn (off := 78) (tgt := 79) dX5_joined_1 (by decide) (by decide) rfl (by decide) ?_
    refine r_iload_n dX5_joined_79 rfl ?_
    refine r_iload_n dX5_joined_80 rfl ?_
    refine r_icmp_ne (tgt := 88) dX5_joined_81 (by decide) (fun b81 => ?_) (fun b81 => ?_)
    · refine r_iconst (v := 0) dX5_joined_88 rfl ?_
      refine r_ireturn dX5_joined_89 rfl rfl ?_
      first | rwa [dd_eq, yn_t (by simp_all [i_lt, i_le])] at h | rwa [dd_eq, yn_f (by simp_all [i_lt, i_le])] at h
    · refine r_iconst (v := 1) dX5_joined_84 rfl ?_
      refine r_goto (tgt := 89) dX5_joined_85 (by decide) ?_
      refine r_ireturn dX5_joined_89 rfl rfl ?_
      first | rwa [dd_eq, yn_t (by simp_all [i_lt, i_le])] at h | rwa [dd_eq, yn_f (by simp_all [i_lt, i_le])] at h
  · show qG E mm_X5_joined d 0 [(0, .int (-13)), (1, .int a), (2, .int b)] [] A L Ph
    refine r_iload_n dX5_joined_0 rfl ?_
    refine r_tableIn (off := 89) (tgt := 90) dX5_joined_1 (by decide) (by decide) rfl (by decide) ?_
    refine r_iload_n dX5_joined_90 rfl ?_
    refine r_iload_n dX5_joined_91 rfl ?_
    refine r_iadd dX5_joined_92 ?_
    refine r_ireturn dX5_joined_93 rfl rfl ?_
    rwa [dd_pl] at h
  · show qG E mm_X5_joined d 0 [(0, .int (-14)), (1, .int a), (2, .int b)] [] A L Ph
    refine r_iload_n dX5_joined_0 rfl ?_
    refine r_tableIn (off := 93) (tgt := 94) dX5_joined_1 (by decide) (by decide) rfl (by decide) ?_
    refine r_iload_n dX5_joined_94 rfl ?_
    refine r_iload_n dX5_joined_95 rfl ?_
    refine r_isub dX5_joined_96 ?_
    refine r_ireturn dX5_joined_97 rfl rfl ?_
    rwa [dd_mi] at h
  · show qG E mm_X5_joined d 0 [(0, .int (-15)), (1, .int a), (2, .int b)] [] A L Ph
    refine r_iload_n dX5_joined_0 rfl ?_
    refine r_tableOut (tgt := 98) dX5_joined_1 (by decide) (by decide) ?_
    refine r_iload_n dX5_joined_98 rfl ?_
    refine r_iload_n dX5_joined_99 rfl ?_
    refine r_imul dX5_joined_100 ?_
    refine r_ireturn dX5_joined_101 rfl rfl ?_
    rwa [dd_ti] at h
theorem sp_X7_many (hE : hM E) (h : Ph (some (.int (A 39 60))) A L) : qC E mm_X7_many d [.ref 38] A L Ph := by
  refine qC.enter (by decide) (Nat.le_of_ble_eq_true rfl) ?_
  refine r_aload_n dX7_many_0 rfl ?_
  refine r_getR dX7_many_1 fl_X7_7 (ly_38 hE) rfl ?_
  refine r_bipush (v := (nI 60)) dX7_many_4 rfl ?_
  refine r_ialdN dX7_many_6 (ly_39 hE) (by decide) (by decide) ?_
  refine r_ireturn dX7_many_7 rfl rfl ?_
  exact h
set_option maxRecDepth 100000 in
set_option maxHeartbeats 4000000 in
theorem tell_loop (hE : hM E) {r part e : Nat} (hr : r < 6) (hp : part < 3) (he : A 43 (3 * r + part) = nI e) (he2 : e ≤ 160) {wd a z : Int32} {f nv : Nat → Int32} (hf : ∀ i, i < e → A 42 (160 * r + i) = f i) (h0 : wd = nv 0) (h1 : a = nv 1) (h2 : A 38 18 = nv 2) (h3 : A 39 61 = nv 3) (h4 : A 38 20 = nv 4) (h5 : A 39 60 = nv 5) :
    ∀ (n i : Nat) (s : List Int32) (g : Nat → Int32), i + n = e → s.length ≤ i → rok f i n s.length → sk g s → (∀ g', Ph (some (.int ((rev nv f i n s).headD 0))) (va_up A 46 g') L) → qG E mm_X7_tell (d + 2) 36 [(7, .int (nI i)), (6, .int (nI s.length)), (5, .int z), (4, .int (nI r)), (0, .ref 38), (1, .int (nI part)), (2, .int wd), (3, .int a)] [] (va_up A 46 g) L Ph := by
  intro n
  induction n with
  | zero =>
    intro i s g hi hsl hok hs h
    have hi : i = e := by omega
    subst hi
    have h1l : s.length = 1 := hok
    obtain ⟨v, rfl⟩ : ∃ v, s = [v] := by
      match s, h1l with
      | [v], _ => exact ⟨v, rfl⟩
    refine r_iload dX7_tell_36 rfl ?_
    refine r_aload_n dX7_tell_38 rfl ?_
    refine r_getR dX7_tell_39 fl_X7_22 (ly_38 hE) rfl ?_
    refine r_iconst (v := 3) dX7_tell_42 rfl ?_
    refine r_iload dX7_tell_43 rfl ?_
    refine r_imul dX7_tell_45 ?_
    refine r_iload_n dX7_tell_46 rfl ?_
    refine r_iadd dX7_tell_47 ?_
    refine r_rw (y := nI (3 * r + part)) (show nI 3 * nI r + nI part = _ by rw [pk_mul, nI_add]) ?_
    refine r_ialdN dX7_tell_48 (ly_43 hE) (by omega) (by decide) ?_
    refine r_rw (y := nI i) (show va_up A 46 g 43 (3 * r + part) = nI i from he) ?_
    refine r_icmp_ge (tgt := 287) dX7_tell_49 (by decide) (fun _ => ?_) (fun hn => absurd (nI_le (Nat.le_refl _) (by omega)) hn)
    refine r_aload_n dX7_tell_287 rfl ?_
    refine r_getR dX7_tell_288 fl_X7_40 (ly_38 hE) rfl ?_
    refine r_iconst (v := (nI 0)) dX7_tell_291 rfl ?_
    refine r_ialdN dX7_tell_292 (ly_46 hE) (by decide) (by decide) ?_
    refine r_rw (y := v) (show va_up A 46 g 46 0 = v from hs.1) ?_
    refine r_ireturn dX7_tell_293 rfl rfl ?_
    exact h g
  | succ n ih =>
    intro i s g hi hsl hok hs h
    have hie : i < e := by omega
    have hfi := hf i (by omega)
    have hvc : VC (f i) := hok.1
    rw [rev_succ] at h
    rcases hvc with ⟨j, hj, ej⟩ | ⟨k, hk, ek⟩ | ej | ej | hb
    · refine r_iload dX7_tell_36 rfl ?_
      refine r_aload_n dX7_tell_38 rfl ?_
      refine r_getR dX7_tell_39 fl_X7_22 (ly_38 hE) rfl ?_
      refine r_iconst (v := 3) dX7_tell_42 rfl ?_
      refine r_iload dX7_tell_43 rfl ?_
      refine r_imul dX7_tell_45 ?_
      refine r_iload_n dX7_tell_46 rfl ?_
      refine r_iadd dX7_tell_47 ?_
      refine r_rw (y := nI (3 * r + part)) (show nI 3 * nI r + nI part = _ by rw [pk_mul, nI_add]) ?_
      refine r_ialdN dX7_tell_48 (ly_43 hE) (by omega) (by decide) ?_
      refine r_rw (y := nI e) (show va_up A 46 g 43 (3 * r + part) = nI e from he) ?_
      refine r_icmp_ge (tgt := 287) dX7_tell_49 (by decide) (fun hn => absurd hn (nI_ge hie (by omega))) (fun _ => ?_)
      refine r_aload_n dX7_tell_52 rfl ?_
      refine r_getR dX7_tell_53 fl_X7_19 (ly_38 hE) rfl ?_
      refine r_sipush (v := 160) dX7_tell_56 rfl ?_
      refine r_iload dX7_tell_59 rfl ?_
      refine r_imul dX7_tell_61 ?_
      refine r_iload dX7_tell_62 rfl ?_
      refine r_iadd dX7_tell_64 ?_
      refine r_rw (y := nI (160 * r + i)) (show nI 160 * nI r + nI i = _ by rw [pk_mul, nI_add]) ?_
      refine r_ialdN dX7_tell_65 (ly_42 hE) (by omega) (by decide) ?_
      refine r_rw (y := nI j) ((show va_up A 46 g 42 (160 * r + i) = f i from hfi).trans ej) ?_
      refine r_istore (loc' := [(8, .int (nI j)), (7, .int (nI i)), (6, .int (nI s.length)), (5, .int z), (4, .int (nI r)), (0, .ref 38), (1, .int (nI part)), (2, .int wd), (3, .int a)]) dX7_tell_66 (by decide) rfl ?_
      refine r_iload dX7_tell_68 rfl ?_
      refine r_if_lt (tgt := 88) dX7_tell_70 (by decide) (fun hn => absurd hn (nI_pos (by omega))) (fun _ => ?_)
      refine r_aload_n dX7_tell_73 rfl ?_
      refine r_getR dX7_tell_74 fl_X7_40 (ly_38 hE) rfl ?_
      refine r_iload dX7_tell_77 rfl ?_
      refine r_iload dX7_tell_79 rfl ?_
      refine r_iastN dX7_tell_81 (ly_46 hE) (by omega) (by decide) ?_
      refine r_iinc (v := (nI (s.length + 1))) (loc' := [(6, .int (nI (s.length + 1))), (8, .int (nI j)), (7, .int (nI i)), (5, .int z), (4, .int (nI r)), (0, .ref 38), (1, .int (nI part)), (2, .int wd), (3, .int a)]) dX7_tell_82 rfl ((nI_succ _).symm) (by decide) rfl ?_
      refine r_goto (tgt := 281) dX7_tell_85 (by decide) ?_
      refine r_iinc (v := (nI (i + 1))) (loc' := [(7, .int (nI (i + 1))), (6, .int (nI (s.length + 1))), (8, .int (nI j)), (5, .int z), (4, .int (nI r)), (0, .ref 38), (1, .int (nI part)), (2, .int wd), (3, .int a)]) dX7_tell_281 rfl ((nI_succ _).symm) (by decide) rfl ?_
      refine r_goto (tgt := 36) dX7_tell_284 (by decide) ?_
      refine qG.pick [0, 1, 3, 4, 5, 6, 7, 8] rfl ?_
      rw [s2_up]
      rw [ej, rst_num hj] at h
      exact ih (i + 1) (nI j :: s) _ (by omega) (by simp only [List.length_cons]; omega) (rok_num hok hj ej) (sk_push hs) h
    · rcases (show k = 0 ∨ k = 1 ∨ k = 2 ∨ k = 3 ∨ k = 4 ∨ k = 5 by omega) with rfl | rfl | rfl | rfl | rfl | rfl
      · refine r_iload dX7_tell_36 rfl ?_
        refine r_aload_n dX7_tell_38 rfl ?_
        refine r_getR dX7_tell_39 fl_X7_22 (ly_38 hE) rfl ?_
        refine r_iconst (v := 3) dX7_tell_42 rfl ?_
        refine r_iload dX7_tell_43 rfl ?_
        refine r_imul dX7_tell_45 ?_
        refine r_iload_n dX7_tell_46 rfl ?_
        refine r_iadd dX7_tell_47 ?_
        refine r_rw (y := nI (3 * r + part)) (show nI 3 * nI r + nI part = _ by rw [pk_mul, nI_add]) ?_
        refine r_ialdN dX7_tell_48 (ly_43 hE) (by omega) (by decide) ?_
        refine r_rw (y := nI e) (show va_up A 46 g 43 (3 * r + part) = nI e from he) ?_
        refine r_icmp_ge (tgt := 287) dX7_tell_49 (by decide) (fun hn => absurd hn (nI_ge hie (by omega))) (fun _ => ?_)
        refine r_aload_n dX7_tell_52 rfl ?_
        refine r_getR dX7_tell_53 fl_X7_19 (ly_38 hE) rfl ?_
        refine r_sipush (v := 160) dX7_tell_56 rfl ?_
        refine r_iload dX7_tell_59 rfl ?_
        refine r_imul dX7_tell_61 ?_
        refine r_iload dX7_tell_62 rfl ?_
        refine r_iadd dX7_tell_64 ?_
        refine r_rw (y := nI (160 * r + i)) (show nI 160 * nI r + nI i = _ by rw [pk_mul, nI_add]) ?_
        refine r_ialdN dX7_tell_65 (ly_42 hE) (by omega) (by decide) ?_
        refine r_rw (y := -10) ((show va_up A 46 g 42 (160 * r + i) = f i from hfi).trans (ek.trans (by decide))) ?_
        refine r_istore (loc' := [(8, .int (-10)), (7, .int (nI i)), (6, .int (nI s.length)), (5, .int z), (4, .int (nI r)), (0, .ref 38), (1, .int (nI part)), (2, .int wd), (3, .int a)]) dX7_tell_66 (by decide) rfl ?_
        refine r_iload dX7_tell_68 rfl ?_
        refine r_if_lt (tgt := 88) dX7_tell_70 (by decide) (fun _ => ?_) (fun hn => absurd (by decide) hn)
        refine r_iload dX7_tell_88 rfl ?_
        refine r_bipush (v := (-20)) dX7_tell_90 rfl ?_
        refine r_icmp_le (tgt := 180) dX7_tell_92 (by decide) (fun hn => absurd hn (by decide)) (fun _ => ?_)
        refine r_bipush (v := (-10)) dX7_tell_95 rfl ?_
        refine r_iload dX7_tell_97 rfl ?_
        refine r_isub dX7_tell_99 ?_
        refine r_rw (y := 0) (by decide) ?_
        refine r_istore (loc' := [(9, .int 0), (8, .int (-10)), (7, .int (nI i)), (6, .int (nI s.length)), (5, .int z), (4, .int (nI r)), (0, .ref 38), (1, .int (nI part)), (2, .int wd), (3, .int a)]) dX7_tell_100 (by decide) rfl ?_
        refine r_aload_n dX7_tell_102 rfl ?_
        refine r_getR dX7_tell_103 fl_X7_40 (ly_38 hE) rfl ?_
        refine r_iload dX7_tell_106 rfl ?_
        refine r_iload dX7_tell_108 rfl ?_
        refine r_if_ne (tgt := 117) dX7_tell_110 (by decide) (fun hn => absurd (by decide) hn) (fun _ => ?_)
        refine r_iload_n dX7_tell_113 rfl ?_
        refine r_goto (tgt := 173) dX7_tell_114 (by decide) ?_
        refine r_rw (y := nv 0) h0 ?_
        refine r_iastN dX7_tell_173 (ly_46 hE) (by omega) (by decide) ?_
        refine r_iinc (v := (nI (s.length + 1))) (loc' := [(6, .int (nI (s.length + 1))), (9, .int 0), (8, .int (-10)), (7, .int (nI i)), (5, .int z), (4, .int (nI r)), (0, .ref 38), (1, .int (nI part)), (2, .int wd), (3, .int a)]) dX7_tell_174 rfl ((nI_succ _).symm) (by decide) rfl ?_
        refine r_goto (tgt := 281) dX7_tell_177 (by decide) ?_
        refine r_iinc (v := (nI (i + 1))) (loc' := [(7, .int (nI (i + 1))), (6, .int (nI (s.length + 1))), (9, .int 0), (8, .int (-10)), (5, .int z), (4, .int (nI r)), (0, .ref 38), (1, .int (nI part)), (2, .int wd), (3, .int a)]) dX7_tell_281 rfl ((nI_succ _).symm) (by decide) rfl ?_
        refine r_goto (tgt := 36) dX7_tell_284 (by decide) ?_
        refine qG.pick [0, 1, 4, 5, 6, 7, 8, 9] rfl ?_
        rw [s2_up]
        rw [ek, rst_nm hk] at h
        exact ih (i + 1) (nv 0 :: s) _ (by omega) (by simp only [List.length_cons]; omega) (rok_nm hok hk ek) (sk_push hs) h
      · refine r_iload dX7_tell_36 rfl ?_
        refine r_aload_n dX7_tell_38 rfl ?_
        refine r_getR dX7_tell_39 fl_X7_22 (ly_38 hE) rfl ?_
        refine r_iconst (v := 3) dX7_tell_42 rfl ?_
        refine r_iload dX7_tell_43 rfl ?_
        refine r_imul dX7_tell_45 ?_
        refine r_iload_n dX7_tell_46 rfl ?_
        refine r_iadd dX7_tell_47 ?_
        refine r_rw (y := nI (3 * r + part)) (show nI 3 * nI r + nI part = _ by rw [pk_mul, nI_add]) ?_
        refine r_ialdN dX7_tell_48 (ly_43 hE) (by omega) (by decide) ?_
        refine r_rw (y := nI e) (show va_up A 46 g 43 (3 * r + part) = nI e from he) ?_
        refine r_icmp_ge (tgt := 287) dX7_tell_49 (by decide) (fun hn => absurd hn (nI_ge hie (by omega))) (fun _ => ?_)
        refine r_aload_n dX7_tell_52 rfl ?_
        refine r_getR dX7_tell_53 fl_X7_19 (ly_38 hE) rfl ?_
        refine r_sipush (v := 160) dX7_tell_56 rfl ?_
        refine r_iload dX7_tell_59 rfl ?_
        refine r_imul dX7_tell_61 ?_
        refine r_iload dX7_tell_62 rfl ?_
        refine r_iadd dX7_tell_64 ?_
        refine r_rw (y := nI (160 * r + i)) (show nI 160 * nI r + nI i = _ by rw [pk_mul, nI_add]) ?_
        refine r_ialdN dX7_tell_65 (ly_42 hE) (by omega) (by decide) ?_
        refine r_rw (y := -11) ((show va_up A 46 g 42 (160 * r + i) = f i from hfi).trans (ek.trans (by decide))) ?_
        refine r_istore (loc' := [(8, .int (-11)), (7, .int (nI i)), (6, .int (nI s.length)), (5, .int z), (4, .int (nI r)), (0, .ref 38), (1, .int (nI part)), (2, .int wd), (3, .int a)]) dX7_tell_66 (by decide) rfl ?_
        refine r_iload dX7_tell_68 rfl ?_
        refine r_if_lt (tgt := 88) dX7_tell_70 (by decide) (fun _ => ?_) (fun hn => absurd (by decide) hn)
        refine r_iload dX7_tell_88 rfl ?_
        refine r_bipush (v := (-20)) dX7_tell_90 rfl ?_
        refine r_icmp_le (tgt := 180) dX7_tell_92 (by decide) (fun hn => absurd hn (by decide)) (fun _ => ?_)
        refine r_bipush (v := (-10)) dX7_tell_95 rfl ?_
        refine r_iload dX7_tell_97 rfl ?_
        refine r_isub dX7_tell_99 ?_
        refine r_rw (y := 1) (by decide) ?_
        refine r_istore (loc' := [(9, .int 1), (8, .int (-11)), (7, .int (nI i)), (6, .int (nI s.length)), (5, .int z), (4, .int (nI r)), (0, .ref 38), (1, .int (nI part)), (2, .int wd), (3, .int a)]) dX7_tell_100 (by decide) rfl ?_
        refine r_aload_n dX7_tell_102 rfl ?_
        refine r_getR dX7_tell_103 fl_X7_40 (ly_38 hE) rfl ?_
        refine r_iload dX7_tell_106 rfl ?_
        refine r_iload dX7_tell_108 rfl ?_
        refine r_if_ne (tgt := 117) dX7_tell_110 (by decide) (fun _ => ?_) (fun hn => absurd hn (by decide))
        refine r_iload dX7_tell_117 rfl ?_
        refine r_iconst (v := 1) dX7_tell_119 rfl ?_
        refine r_icmp_ne (tgt := 127) dX7_tell_120 (by decide) (fun hn => absurd (by decide) hn) (fun _ => ?_)
        refine r_iload_n dX7_tell_123 rfl ?_
        refine r_goto (tgt := 173) dX7_tell_124 (by decide) ?_
        refine r_rw (y := nv 1) h1 ?_
        refine r_iastN dX7_tell_173 (ly_46 hE) (by omega) (by decide) ?_
        refine r_iinc (v := (nI (s.length + 1))) (loc' := [(6, .int (nI (s.length + 1))), (9, .int 1), (8, .int (-11)), (7, .int (nI i)), (5, .int z), (4, .int (nI r)), (0, .ref 38), (1, .int (nI part)), (2, .int wd), (3, .int a)]) dX7_tell_174 rfl ((nI_succ _).symm) (by decide) rfl ?_
        refine r_goto (tgt := 281) dX7_tell_177 (by decide) ?_
        refine r_iinc (v := (nI (i + 1))) (loc' := [(7, .int (nI (i + 1))), (6, .int (nI (s.length + 1))), (9, .int 1), (8, .int (-11)), (5, .int z), (4, .int (nI r)), (0, .ref 38), (1, .int (nI part)), (2, .int wd), (3, .int a)]) dX7_tell_281 rfl ((nI_succ _).symm) (by decide) rfl ?_
        refine r_goto (tgt := 36) dX7_tell_284 (by decide) ?_
        refine qG.pick [0, 1, 4, 5, 6, 7, 8, 9] rfl ?_
        rw [s2_up]
        rw [ek, rst_nm hk] at h
        exact ih (i + 1) (nv 1 :: s) _ (by omega) (by simp only [List.length_cons]; omega) (rok_nm hok hk ek) (sk_push hs) h
      · refine r_iload dX7_tell_36 rfl ?_
        refine r_aload_n dX7_tell_38 rfl ?_
        refine r_getR dX7_tell_39 fl_X7_22 (ly_38 hE) rfl ?_
        refine r_iconst (v := 3) dX7_tell_42 rfl ?_
        refine r_iload dX7_tell_43 rfl ?_
        refine r_imul dX7_tell_45 ?_
        refine r_iload_n dX7_tell_46 rfl ?_
        refine r_iadd dX7_tell_47 ?_
        refine r_rw (y := nI (3 * r + part)) (show nI 3 * nI r + nI part = _ by rw [pk_mul, nI_add]) ?_
        refine r_ialdN dX7_tell_48 (ly_43 hE) (by omega) (by decide) ?_
        refine r_rw (y := nI e) (show va_up A 46 g 43 (3 * r + part) = nI e from he) ?_
        refine r_icmp_ge (tgt := 287) dX7_tell_49 (by decide) (fun hn => absurd hn (nI_ge hie (by omega))) (fun _ => ?_)
        refine r_aload_n dX7_tell_52 rfl ?_
        refine r_getR dX7_tell_53 fl_X7_19 (ly_38 hE) rfl ?_
        refine r_sipush (v := 160) dX7_tell_56 rfl ?_
        refine r_iload dX7_tell_59 rfl ?_
        refine r_imul dX7_tell_61 ?_
        refine r_iload dX7_tell_62 rfl ?_
        refine r_iadd dX7_tell_64 ?_
        refine r_rw (y := nI (160 * r + i)) (show nI 160 * nI r + nI i = _ by rw [pk_mul, nI_add]) ?_
        refine r_ialdN dX7_tell_65 (ly_42 hE) (by omega) (by decide) ?_
        refine r_rw (y := -12) ((show va_up A 46 g 42 (160 * r + i) = f i from hfi).trans (ek.trans (by decide))) ?_
        refine r_istore (loc' := [(8, .int (-12)), (7, .int (nI i)), (6, .int (nI s.length)), (5, .int z), (4, .int (nI r)), (0, .ref 38), (1, .int (nI part)), (2, .int wd), (3, .int a)]) dX7_tell_66 (by decide) rfl ?_
        refine r_iload dX7_tell_68 rfl ?_
        refine r_if_lt (tgt := 88) dX7_tell_70 (by decide) (fun _ => ?_) (fun hn => absurd (by decide) hn)
        refine r_iload dX7_tell_88 rfl ?_
        refine r_bipush (v := (-20)) dX7_tell_90 rfl ?_
        refine r_icmp_le (tgt := 180) dX7_tell_92 (by decide) (fun hn => absurd hn (by decide)) (fun _ => ?_)
        refine r_bipush (v := (-10)) dX7_tell_95 rfl ?_
        refine r_iload dX7_tell_97 rfl ?_
        refine r_isub dX7_tell_99 ?_
        refine r_rw (y := 2) (by decide) ?_
        refine r_istore (loc' := [(9, .int 2), (8, .int (-12)), (7, .int (nI i)), (6, .int (nI s.length)), (5, .int z), (4, .int (nI r)), (0, .ref 38), (1, .int (nI part)), (2, .int wd), (3, .int a)]) dX7_tell_100 (by decide) rfl ?_
        refine r_aload_n dX7_tell_102 rfl ?_
        refine r_getR dX7_tell_103 fl_X7_40 (ly_38 hE) rfl ?_
        refine r_iload dX7_tell_106 rfl ?_
        refine r_iload dX7_tell_108 rfl ?_
        refine r_if_ne (tgt := 117) dX7_tell_110 (by decide) (fun _ => ?_) (fun hn => absurd hn (by decide))
        refine r_iload dX7_tell_117 rfl ?_
        refine r_iconst (v := 1) dX7_tell_119 rfl ?_
        refine r_icmp_ne (tgt := 127) dX7_tell_120 (by decide) (fun _ => ?_) (fun hn => absurd hn (by decide))
        refine r_iload dX7_tell_127 rfl ?_
        refine r_iconst (v := 2) dX7_tell_129 rfl ?_
        refine r_icmp_ne (tgt := 140) dX7_tell_130 (by decide) (fun hn => absurd (by decide) hn) (fun _ => ?_)
        refine r_aload_n dX7_tell_133 rfl ?_
        refine r_getI dX7_tell_134 fl_X7_190 (ly_38 hE) rfl ?_
        refine r_goto (tgt := 173) dX7_tell_137 (by decide) ?_
        refine r_rw (y := nv 2) h2 ?_
        refine r_iastN dX7_tell_173 (ly_46 hE) (by omega) (by decide) ?_
        refine r_iinc (v := (nI (s.length + 1))) (loc' := [(6, .int (nI (s.length + 1))), (9, .int 2), (8, .int (-12)), (7, .int (nI i)), (5, .int z), (4, .int (nI r)), (0, .ref 38), (1, .int (nI part)), (2, .int wd), (3, .int a)]) dX7_tell_174 rfl ((nI_succ _).symm) (by decide) rfl ?_
        refine r_goto (tgt := 281) dX7_tell_177 (by decide) ?_
        refine r_iinc (v := (nI (i + 1))) (loc' := [(7, .int (nI (i + 1))), (6, .int (nI (s.length + 1))), (9, .int 2), (8, .int (-12)), (5, .int z), (4, .int (nI r)), (0, .ref 38), (1, .int (nI part)), (2, .int wd), (3, .int a)]) dX7_tell_281 rfl ((nI_succ _).symm) (by decide) rfl ?_
        refine r_goto (tgt := 36) dX7_tell_284 (by decide) ?_
        refine qG.pick [0, 1, 4, 5, 6, 7, 8, 9] rfl ?_
        rw [s2_up]
        rw [ek, rst_nm hk] at h
        exact ih (i + 1) (nv 2 :: s) _ (by omega) (by simp only [List.length_cons]; omega) (rok_nm hok hk ek) (sk_push hs) h
      · refine r_iload dX7_tell_36 rfl ?_
        refine r_aload_n dX7_tell_38 rfl ?_
        refine r_getR dX7_tell_39 fl_X7_22 (ly_38 hE) rfl ?_
        refine r_iconst (v := 3) dX7_tell_42 rfl ?_
        refine r_iload dX7_tell_43 rfl ?_
        refine r_imul dX7_tell_45 ?_
        refine r_iload_n dX7_tell_46 rfl ?_
        refine r_iadd dX7_tell_47 ?_
        refine r_rw (y := nI (3 * r + part)) (show nI 3 * nI r + nI part = _ by rw [pk_mul, nI_add]) ?_
        refine r_ialdN dX7_tell_48 (ly_43 hE) (by omega) (by decide) ?_
        refine r_rw (y := nI e) (show va_up A 46 g 43 (3 * r + part) = nI e from he) ?_
        refine r_icmp_ge (tgt := 287) dX7_tell_49 (by decide) (fun hn => absurd hn (nI_ge hie (by omega))) (fun _ => ?_)
        refine r_aload_n dX7_tell_52 rfl ?_
        refine r_getR dX7_tell_53 fl_X7_19 (ly_38 hE) rfl ?_
        refine r_sipush (v := 160) dX7_tell_56 rfl ?_
        refine r_iload dX7_tell_59 rfl ?_
        refine r_imul dX7_tell_61 ?_
        refine r_iload dX7_tell_62 rfl ?_
        refine r_iadd dX7_tell_64 ?_
        refine r_rw (y := nI (160 * r + i)) (show nI 160 * nI r + nI i = _ by rw [pk_mul, nI_add]) ?_
        refine r_ialdN dX7_tell_65 (ly_42 hE) (by omega) (by decide) ?_
        refine r_rw (y := -13) ((show va_up A 46 g 42 (160 * r + i) = f i from hfi).trans (ek.trans (by decide))) ?_
        refine r_istore (loc' := [(8, .int (-13)), (7, .int (nI i)), (6, .int (nI s.length)), (5, .int z), (4, .int (nI r)), (0, .ref 38), (1, .int (nI part)), (2, .int wd), (3, .int a)]) dX7_tell_66 (by decide) rfl ?_
        refine r_iload dX7_tell_68 rfl ?_
        refine r_if_lt (tgt := 88) dX7_tell_70 (by decide) (fun _ => ?_) (fun hn => absurd (by decide) hn)
        refine r_iload dX7_tell_88 rfl ?_
        refine r_bipush (v := (-20)) dX7_tell_90 rfl ?_
        refine r_icmp_le (tgt := 180) dX7_tell_92 (by decide) (fun hn => absurd hn (by decide)) (fun _ => ?_)
        refine r_bipush (v := (-10)) dX7_tell_95 rfl ?_
        refine r_iload dX7_tell_97 rfl ?_
        refine r_isub dX7_tell_99 ?_
        refine r_rw (y := 3) (by decide) ?_
        refine r_istore (loc' := [(9, .int 3), (8, .int (-13)), (7, .int (nI i)), (6, .int (nI s.length)), (5, .int z), (4, .int (nI r)), (0, .ref 38), (1, .int (nI part)), (2, .int wd), (3, .int a)]) dX7_tell_100 (by decide) rfl ?_
        refine r_aload_n dX7_tell_102 rfl ?_
        refine r_getR dX7_tell_103 fl_X7_40 (ly_38 hE) rfl ?_
        refine r_iload dX7_tell_106 rfl ?_
        refine r_iload dX7_tell_108 rfl ?_
        refine r_if_ne (tgt := 117) dX7_tell_110 (by decide) (fun _ => ?_) (fun hn => absurd hn (by decide))
        refine r_iload dX7_tell_117 rfl ?_
        refine r_iconst (v := 1) dX7_tell_119 rfl ?_
        refine r_icmp_ne (tgt := 127) dX7_tell_120 (by decide) (fun _ => ?_) (fun hn => absurd hn (by decide))
        refine r_iload dX7_tell_127 rfl ?_
        refine r_iconst (v := 2) dX7_tell_129 rfl ?_
        refine r_icmp_ne (tgt := 140) dX7_tell_130 (by decide) (fun _ => ?_) (fun hn => absurd hn (by decide))
        refine r_iload dX7_tell_140 rfl ?_
        refine r_iconst (v := 3) dX7_tell_142 rfl ?_
        refine r_icmp_ne (tgt := 156) dX7_tell_143 (by decide) (fun hn => absurd (by decide) hn) (fun _ => ?_)
        refine r_aload_n dX7_tell_146 rfl ?_
        refine r_getR dX7_tell_147 fl_X7_7 (ly_38 hE) rfl ?_
        refine r_bipush (v := (nI 61)) dX7_tell_150 rfl ?_
        refine r_ialdN dX7_tell_152 (ly_39 hE) (by decide) (by decide) ?_
        refine r_goto (tgt := 173) dX7_tell_153 (by decide) ?_
        refine r_rw (y := nv 3) h3 ?_
        refine r_iastN dX7_tell_173 (ly_46 hE) (by omega) (by decide) ?_
        refine r_iinc (v := (nI (s.length + 1))) (loc' := [(6, .int (nI (s.length + 1))), (9, .int 3), (8, .int (-13)), (7, .int (nI i)), (5, .int z), (4, .int (nI r)), (0, .ref 38), (1, .int (nI part)), (2, .int wd), (3, .int a)]) dX7_tell_174 rfl ((nI_succ _).symm) (by decide) rfl ?_
        refine r_goto (tgt := 281) dX7_tell_177 (by decide) ?_
        refine r_iinc (v := (nI (i + 1))) (loc' := [(7, .int (nI (i + 1))), (6, .int (nI (s.length + 1))), (9, .int 3), (8, .int (-13)), (5, .int z), (4, .int (nI r)), (0, .ref 38), (1, .int (nI part)), (2, .int wd), (3, .int a)]) dX7_tell_281 rfl ((nI_succ _).symm) (by decide) rfl ?_
        refine r_goto (tgt := 36) dX7_tell_284 (by decide) ?_
        refine qG.pick [0, 1, 4, 5, 6, 7, 8, 9] rfl ?_
        rw [s2_up]
        rw [ek, rst_nm hk] at h
        exact ih (i + 1) (nv 3 :: s) _ (by omega) (by simp only [List.length_cons]; omega) (rok_nm hok hk ek) (sk_push hs) h
      · refine r_iload dX7_tell_36 rfl ?_
        refine r_aload_n dX7_tell_38 rfl ?_
        refine r_getR dX7_tell_39 fl_X7_22 (ly_38 hE) rfl ?_
        refine r_iconst (v := 3) dX7_tell_42 rfl ?_
        refine r_iload dX7_tell_43 rfl ?_
        refine r_imul dX7_tell_45 ?_
        refine r_iload_n dX7_tell_46 rfl ?_
        refine r_iadd dX7_tell_47 ?_
        refine r_rw (y := nI (3 * r + part)) (show nI 3 * nI r + nI part = _ by rw [pk_mul, nI_add]) ?_
        refine r_ialdN dX7_tell_48 (ly_43 hE) (by omega) (by decide) ?_
        refine r_rw (y := nI e) (show va_up A 46 g 43 (3 * r + part) = nI e from he) ?_
        refine r_icmp_ge (tgt := 287) dX7_tell_49 (by decide) (fun hn => absurd hn (nI_ge hie (by omega))) (fun _ => ?_)
        refine r_aload_n dX7_tell_52 rfl ?_
        refine r_getR dX7_tell_53 fl_X7_19 (ly_38 hE) rfl ?_
        refine r_sipush (v := 160) dX7_tell_56 rfl ?_
        refine r_iload dX7_tell_59 rfl ?_
        refine r_imul dX7_tell_61 ?_
        refine r_iload dX7_tell_62 rfl ?_
        refine r_iadd dX7_tell_64 ?_
        refine r_rw (y := nI (160 * r + i)) (show nI 160 * nI r + nI i = _ by rw [pk_mul, nI_add]) ?_
        refine r_ialdN dX7_tell_65 (ly_42 hE) (by omega) (by decide) ?_
        refine r_rw (y := -14) ((show va_up A 46 g 42 (160 * r + i) = f i from hfi).trans (ek.trans (by decide))) ?_
        refine r_istore (loc' := [(8, .int (-14)), (7, .int (nI i)), (6, .int (nI s.length)), (5, .int z), (4, .int (nI r)), (0, .ref 38), (1, .int (nI part)), (2, .int wd), (3, .int a)]) dX7_tell_66 (by decide) rfl ?_
        refine r_iload dX7_tell_68 rfl ?_
        refine r_if_lt (tgt := 88) dX7_tell_70 (by decide) (fun _ => ?_) (fun hn => absurd (by decide) hn)
        refine r_iload dX7_tell_88 rfl ?_
        refine r_bipush (v := (-20)) dX7_tell_90 rfl ?_
        refine r_icmp_le (tgt := 180) dX7_tell_92 (by decide) (fun hn => absurd hn (by decide)) (fun _ => ?_)
        refine r_bipush (v := (-10)) dX7_tell_95 rfl ?_
        refine r_iload dX7_tell_97 rfl ?_
        refine r_isub dX7_tell_99 ?_
        refine r_rw (y := 4) (by decide) ?_
        refine r_istore (loc' := [(9, .int 4), (8, .int (-14)), (7, .int (nI i)), (6, .int (nI s.length)), (5, .int z), (4, .int (nI r)), (0, .ref 38), (1, .int (nI part)), (2, .int wd), (3, .int a)]) dX7_tell_100 (by decide) rfl ?_
        refine r_aload_n dX7_tell_102 rfl ?_
        refine r_getR dX7_tell_103 fl_X7_40 (ly_38 hE) rfl ?_
        refine r_iload dX7_tell_106 rfl ?_
        refine r_iload dX7_tell_108 rfl ?_
        refine r_if_ne (tgt := 117) dX7_tell_110 (by decide) (fun _ => ?_) (fun hn => absurd hn (by decide))
        refine r_iload dX7_tell_117 rfl ?_
        refine r_iconst (v := 1) dX7_tell_119 rfl ?_
        refine r_icmp_ne (tgt := 127) dX7_tell_120 (by decide) (fun _ => ?_) (fun hn => absurd hn (by decide))
        refine r_iload dX7_tell_127 rfl ?_
        refine r_iconst (v := 2) dX7_tell_129 rfl ?_
        refine r_icmp_ne (tgt := 140) dX7_tell_130 (by decide) (fun _ => ?_) (fun hn => absurd hn (by decide))
        refine r_iload dX7_tell_140 rfl ?_
        refine r_iconst (v := 3) dX7_tell_142 rfl ?_
        refine r_icmp_ne (tgt := 156) dX7_tell_143 (by decide) (fun _ => ?_) (fun hn => absurd hn (by decide))
        refine r_iload dX7_tell_156 rfl ?_
        refine r_iconst (v := 4) dX7_tell_158 rfl ?_
        refine r_icmp_ne (tgt := 169) dX7_tell_159 (by decide) (fun hn => absurd (by decide) hn) (fun _ => ?_)
        refine r_aload_n dX7_tell_162 rfl ?_
        refine r_getI dX7_tell_163 fl_X7_193 (ly_38 hE) rfl ?_
        refine r_goto (tgt := 173) dX7_tell_166 (by decide) ?_
        refine r_rw (y := nv 4) h4 ?_
        refine r_iastN dX7_tell_173 (ly_46 hE) (by omega) (by decide) ?_
        refine r_iinc (v := (nI (s.length + 1))) (loc' := [(6, .int (nI (s.length + 1))), (9, .int 4), (8, .int (-14)), (7, .int (nI i)), (5, .int z), (4, .int (nI r)), (0, .ref 38), (1, .int (nI part)), (2, .int wd), (3, .int a)]) dX7_tell_174 rfl ((nI_succ _).symm) (by decide) rfl ?_
        refine r_goto (tgt := 281) dX7_tell_177 (by decide) ?_
        refine r_iinc (v := (nI (i + 1))) (loc' := [(7, .int (nI (i + 1))), (6, .int (nI (s.length + 1))), (9, .int 4), (8, .int (-14)), (5, .int z), (4, .int (nI r)), (0, .ref 38), (1, .int (nI part)), (2, .int wd), (3, .int a)]) dX7_tell_281 rfl ((nI_succ _).symm) (by decide) rfl ?_
        refine r_goto (tgt := 36) dX7_tell_284 (by decide) ?_
        refine qG.pick [0, 1, 4, 5, 6, 7, 8, 9] rfl ?_
        rw [s2_up]
        rw [ek, rst_nm hk] at h
        exact ih (i + 1) (nv 4 :: s) _ (by omega) (by simp only [List.length_cons]; omega) (rok_nm hok hk ek) (sk_push hs) h
      · refine r_iload dX7_tell_36 rfl ?_
        refine r_aload_n dX7_tell_38 rfl ?_
        refine r_getR dX7_tell_39 fl_X7_22 (ly_38 hE) rfl ?_
        refine r_iconst (v := 3) dX7_tell_42 rfl ?_
        refine r_iload dX7_tell_43 rfl ?_
        refine r_imul dX7_tell_45 ?_
        refine r_iload_n dX7_tell_46 rfl ?_
        refine r_iadd dX7_tell_47 ?_
        refine r_rw (y := nI (3 * r + part)) (show nI 3 * nI r + nI part = _ by rw [pk_mul, nI_add]) ?_
        refine r_ialdN dX7_tell_48 (ly_43 hE) (by omega) (by decide) ?_
        refine r_rw (y := nI e) (show va_up A 46 g 43 (3 * r + part) = nI e from he) ?_
        refine r_icmp_ge (tgt := 287) dX7_tell_49 (by decide) (fun hn => absurd hn (nI_ge hie (by omega))) (fun _ => ?_)
        refine r_aload_n dX7_tell_52 rfl ?_
        refine r_getR dX7_tell_53 fl_X7_19 (ly_38 hE) rfl ?_
        refine r_sipush (v := 160) dX7_tell_56 rfl ?_
        refine r_iload dX7_tell_59 rfl ?_
        refine r_imul dX7_tell_61 ?_
        refine r_iload dX7_tell_62 rfl ?_
        refine r_iadd dX7_tell_64 ?_
        refine r_rw (y := nI (160 * r + i)) (show nI 160 * nI r + nI i = _ by rw [pk_mul, nI_add]) ?_
        refine r_ialdN dX7_tell_65 (ly_42 hE) (by omega) (by decide) ?_
        refine r_rw (y := -15) ((show va_up A 46 g 42 (160 * r + i) = f i from hfi).trans (ek.trans (by decide))) ?_
        refine r_istore (loc' := [(8, .int (-15)), (7, .int (nI i)), (6, .int (nI s.length)), (5, .int z), (4, .int (nI r)), (0, .ref 38), (1, .int (nI part)), (2, .int wd), (3, .int a)]) dX7_tell_66 (by decide) rfl ?_
        refine r_iload dX7_tell_68 rfl ?_
        refine r_if_lt (tgt := 88) dX7_tell_70 (by decide) (fun _ => ?_) (fun hn => absurd (by decide) hn)
        refine r_iload dX7_tell_88 rfl ?_
        refine r_bipush (v := (-20)) dX7_tell_90 rfl ?_
        refine r_icmp_le (tgt := 180) dX7_tell_92 (by decide) (fun hn => absurd hn (by decide)) (fun _ => ?_)
        refine r_bipush (v := (-10)) dX7_tell_95 rfl ?_
        refine r_iload dX7_tell_97 rfl ?_
        refine r_isub dX7_tell_99 ?_
        refine r_rw (y := 5) (by decide) ?_
        refine r_istore (loc' := [(9, .int 5), (8, .int (-15)), (7, .int (nI i)), (6, .int (nI s.length)), (5, .int z), (4, .int (nI r)), (0, .ref 38), (1, .int (nI part)), (2, .int wd), (3, .int a)]) dX7_tell_100 (by decide) rfl ?_
        refine r_aload_n dX7_tell_102 rfl ?_
        refine r_getR dX7_tell_103 fl_X7_40 (ly_38 hE) rfl ?_
        refine r_iload dX7_tell_106 rfl ?_
        refine r_iload dX7_tell_108 rfl ?_
        refine r_if_ne (tgt := 117) dX7_tell_110 (by decide) (fun _ => ?_) (fun hn => absurd hn (by decide))
        refine r_iload dX7_tell_117 rfl ?_
        refine r_iconst (v := 1) dX7_tell_119 rfl ?_
        refine r_icmp_ne (tgt := 127) dX7_tell_120 (by decide) (fun _ => ?_) (fun hn => absurd hn (by decide))
        refine r_iload dX7_tell_127 rfl ?_
        refine r_iconst (v := 2) dX7_tell_129 rfl ?_
        refine r_icmp_ne (tgt := 140) dX7_tell_130 (by decide) (fun _ => ?_) (fun hn => absurd hn (by decide))
        refine r_iload dX7_tell_140 rfl ?_
        refine r_iconst (v := 3) dX7_tell_142 rfl ?_
        refine r_icmp_ne (tgt := 156) dX7_tell_143 (by decide) (fun _ => ?_) (fun hn => absurd hn (by decide))
        refine r_iload dX7_tell_156 rfl ?_
        refine r_iconst (v := 4) dX7_tell_158 rfl ?_
        refine r_icmp_ne (tgt := 169) dX7_tell_159 (by decide) (fun _ => ?_) (fun hn => absurd hn (by decide))
        refine r_aload_n dX7_tell_169 rfl ?_
        refine r_callV0 dX7_tell_170 lk_X7_94 (ly_38 hE) rfl (Nat.le_of_ble_eq_true rfl) (sp_X7_many hE ?_)
        refine r_rw (y := nv 5) h5 ?_
        refine r_iastN dX7_tell_173 (ly_46 hE) (by omega) (by decide) ?_
        refine r_iinc (v := (nI (s.length + 1))) (loc' := [(6, .int (nI (s.length + 1))), (9, .int 5), (8, .int (-15)), (7, .int (nI i)), (5, .int z), (4, .int (nI r)), (0, .ref 38), (1, .int (nI part)), (2, .int wd), (3, .int a)]) dX7_tell_174 rfl ((nI_succ _).symm) (by decide) rfl ?_
        refine r_goto (tgt := 281) dX7_tell_177 (by decide) ?_
        refine r_iinc (v := (nI (i + 1))) (loc' := [(7, .int (nI (i + 1))), (6, .int (nI (s.length + 1))), (9, .int 5), (8, .int (-15)), (5, .int z), (4, .int (nI r)), (0, .ref 38), (1, .int (nI part)), (2, .int wd), (3, .int a)]) dX7_tell_281 rfl ((nI_succ _).symm) (by decide) rfl ?_
        refine r_goto (tgt := 36) dX7_tell_284 (by decide) ?_
        refine qG.pick [0, 1, 4, 5, 6, 7, 8, 9] rfl ?_
        rw [s2_up]
        rw [ek, rst_nm hk] at h
        exact ih (i + 1) (nv 5 :: s) _ (by omega) (by simp only [List.length_cons]; omega) (rok_nm hok hk ek) (sk_push hs) h
    · obtain ⟨hpos, hok'⟩ := rok_un hok (Or.inl ej)
      obtain ⟨q, t, rfl⟩ := len1 hpos
      have hq : g t.length = q := hs.1
      refine r_iload dX7_tell_36 rfl ?_
      refine r_aload_n dX7_tell_38 rfl ?_
      refine r_getR dX7_tell_39 fl_X7_22 (ly_38 hE) rfl ?_
      refine r_iconst (v := 3) dX7_tell_42 rfl ?_
      refine r_iload dX7_tell_43 rfl ?_
      refine r_imul dX7_tell_45 ?_
      refine r_iload_n dX7_tell_46 rfl ?_
      refine r_iadd dX7_tell_47 ?_
      refine r_rw (y := nI (3 * r + part)) (show nI 3 * nI r + nI part = _ by rw [pk_mul, nI_add]) ?_
      refine r_ialdN dX7_tell_48 (ly_43 hE) (by omega) (by decide) ?_
      refine r_rw (y := nI e) (show va_up A 46 g 43 (3 * r + part) = nI e from he) ?_
      refine r_icmp_ge (tgt := 287) dX7_tell_49 (by decide) (fun hn => absurd hn (nI_ge hie (by omega))) (fun _ => ?_)
      refine r_aload_n dX7_tell_52 rfl ?_
      refine r_getR dX7_tell_53 fl_X7_19 (ly_38 hE) rfl ?_
      refine r_sipush (v := 160) dX7_tell_56 rfl ?_
      refine r_iload dX7_tell_59 rfl ?_
      refine r_imul dX7_tell_61 ?_
      refine r_iload dX7_tell_62 rfl ?_
      refine r_iadd dX7_tell_64 ?_
      refine r_rw (y := nI (160 * r + i)) (show nI 160 * nI r + nI i = _ by rw [pk_mul, nI_add]) ?_
      refine r_ialdN dX7_tell_65 (ly_42 hE) (by omega) (by decide) ?_
      refine r_rw (y := (-22)) ((show va_up A 46 g 42 (160 * r + i) = f i from hfi).trans ej) ?_
      refine r_istore (loc' := [(8, .int (-22)), (7, .int (nI i)), (6, .int (nI (t.length + 1))), (5, .int z), (4, .int (nI r)), (0, .ref 38), (1, .int (nI part)), (2, .int wd), (3, .int a)]) dX7_tell_66 (by decide) rfl ?_
      refine r_iload dX7_tell_68 rfl ?_
      refine r_if_lt (tgt := 88) dX7_tell_70 (by decide) (fun _ => ?_) (fun hn => absurd (by decide) hn)
      refine r_iload dX7_tell_88 rfl ?_
      refine r_bipush (v := (-20)) dX7_tell_90 rfl ?_
      refine r_icmp_le (tgt := 180) dX7_tell_92 (by decide) (fun _ => ?_) (fun hn => absurd (by decide) hn)
      refine r_iload dX7_tell_180 rfl ?_
      refine r_bipush (v := (-22)) dX7_tell_182 rfl ?_
      refine r_icmp_ne (tgt := 219) dX7_tell_184 (by decide) (fun hn => absurd (by decide) hn) (fun _ => ?_)
      refine r_aload_n dX7_tell_187 rfl ?_
      refine r_getR dX7_tell_188 fl_X7_40 (ly_38 hE) rfl ?_
      refine r_iload dX7_tell_191 rfl ?_
      refine r_iconst (v := 1) dX7_tell_193 rfl ?_
      refine r_isub dX7_tell_194 ?_
      refine r_rw (y := nI t.length) (nI_pred _) ?_
      refine r_aload_n dX7_tell_195 rfl ?_
      refine r_getR dX7_tell_196 fl_X7_40 (ly_38 hE) rfl ?_
      refine r_iload dX7_tell_199 rfl ?_
      refine r_iconst (v := 1) dX7_tell_201 rfl ?_
      refine r_isub dX7_tell_202 ?_
      refine r_rw (y := nI t.length) (nI_pred _) ?_
      refine r_ialdN dX7_tell_203 (ly_46 hE) (by simp only [List.length_cons] at hsl; omega) (by decide) ?_
      refine r_rw (y := q) (show va_up A 46 g 46 t.length = q by rw [va_up_eq]; exact hq) ?_
      refine r_if_ne (tgt := 211) dX7_tell_204 (by decide) (fun b204 => ?_) (fun b204 => ?_)
      · refine r_iconst (v := 0) dX7_tell_211 rfl ?_
        refine r_callS1 dX7_tell_212 lk_X7_183 (Nat.le_of_ble_eq_true rfl) (sp_yes0 ?_)
        refine r_iastN dX7_tell_215 (ly_46 hE) (by simp only [List.length_cons] at hsl; omega) (by decide) ?_
        refine r_goto (tgt := 281) dX7_tell_216 (by decide) ?_
        refine r_iinc (v := (nI (i + 1))) (loc' := [(7, .int (nI (i + 1))), (8, .int (-22)), (6, .int (nI (t.length + 1))), (5, .int z), (4, .int (nI r)), (0, .ref 38), (1, .int (nI part)), (2, .int wd), (3, .int a)]) dX7_tell_281 rfl ((nI_succ _).symm) (by decide) rfl ?_
        refine r_goto (tgt := 36) dX7_tell_284 (by decide) ?_
        refine qG.pick [0, 2, 3, 4, 5, 6, 7, 8] rfl ?_
        rw [s2_up]
        rw [ej, rst_not] at h
        first | (rw [yn_t b204] at h; exact ih (i + 1) (1 :: t) _ (by omega) (by simp only [List.length_cons] at hsl ⊢; omega) hok' (sk_push hs.2) h) | (rw [yn_f b204] at h; exact ih (i + 1) (0 :: t) _ (by omega) (by simp only [List.length_cons] at hsl ⊢; omega) hok' (sk_push hs.2) h)
      · refine r_iconst (v := 1) dX7_tell_207 rfl ?_
        refine r_goto (tgt := 212) dX7_tell_208 (by decide) ?_
        refine r_callS1 dX7_tell_212 lk_X7_183 (Nat.le_of_ble_eq_true rfl) (sp_yes1 ?_)
        refine r_iastN dX7_tell_215 (ly_46 hE) (by simp only [List.length_cons] at hsl; omega) (by decide) ?_
        refine r_goto (tgt := 281) dX7_tell_216 (by decide) ?_
        refine r_iinc (v := (nI (i + 1))) (loc' := [(7, .int (nI (i + 1))), (8, .int (-22)), (6, .int (nI (t.length + 1))), (5, .int z), (4, .int (nI r)), (0, .ref 38), (1, .int (nI part)), (2, .int wd), (3, .int a)]) dX7_tell_281 rfl ((nI_succ _).symm) (by decide) rfl ?_
        refine r_goto (tgt := 36) dX7_tell_284 (by decide) ?_
        refine qG.pick [0, 2, 3, 4, 5, 6, 7, 8] rfl ?_
        rw [s2_up]
        rw [ej, rst_not] at h
        first | (rw [yn_t b204] at h; exact ih (i + 1) (1 :: t) _ (by omega) (by simp only [List.length_cons] at hsl ⊢; omega) hok' (sk_push hs.2) h) | (rw [yn_f b204] at h; exact ih (i + 1) (0 :: t) _ (by omega) (by simp only [List.length_cons] at hsl ⊢; omega) hok' (sk_push hs.2) h)
    · obtain ⟨hpos, hok'⟩ := rok_un hok (Or.inr ej)
      obtain ⟨q, t, rfl⟩ := len1 hpos
      have hq : g t.length = q := hs.1
      refine r_iload dX7_tell_36 rfl ?_
      refine r_aload_n dX7_tell_38 rfl ?_
      refine r_getR dX7_tell_39 fl_X7_22 (ly_38 hE) rfl ?_
      refine r_iconst (v := 3) dX7_tell_42 rfl ?_
      refine r_iload dX7_tell_43 rfl ?_
      refine r_imul dX7_tell_45 ?_
      refine r_iload_n dX7_tell_46 rfl ?_
      refine r_iadd dX7_tell_47 ?_
      refine r_rw (y := nI (3 * r + part)) (show nI 3 * nI r + nI part = _ by rw [pk_mul, nI_add]) ?_
      refine r_ialdN dX7_tell_48 (ly_43 hE) (by omega) (by decide) ?_
      refine r_rw (y := nI e) (show va_up A 46 g 43 (3 * r + part) = nI e from he) ?_
      refine r_icmp_ge (tgt := 287) dX7_tell_49 (by decide) (fun hn => absurd hn (nI_ge hie (by omega))) (fun _ => ?_)
      refine r_aload_n dX7_tell_52 rfl ?_
      refine r_getR dX7_tell_53 fl_X7_19 (ly_38 hE) rfl ?_
      refine r_sipush (v := 160) dX7_tell_56 rfl ?_
      refine r_iload dX7_tell_59 rfl ?_
      refine r_imul dX7_tell_61 ?_
      refine r_iload dX7_tell_62 rfl ?_
      refine r_iadd dX7_tell_64 ?_
      refine r_rw (y := nI (160 * r + i)) (show nI 160 * nI r + nI i = _ by rw [pk_mul, nI_add]) ?_
      refine r_ialdN dX7_tell_65 (ly_42 hE) (by omega) (by decide) ?_
      refine r_rw (y := (-28)) ((show va_up A 46 g 42 (160 * r + i) = f i from hfi).trans ej) ?_
      refine r_istore (loc' := [(8, .int (-28)), (7, .int (nI i)), (6, .int (nI (t.length + 1))), (5, .int z), (4, .int (nI r)), (0, .ref 38), (1, .int (nI part)), (2, .int wd), (3, .int a)]) dX7_tell_66 (by decide) rfl ?_
      refine r_iload dX7_tell_68 rfl ?_
      refine r_if_lt (tgt := 88) dX7_tell_70 (by decide) (fun _ => ?_) (fun hn => absurd (by decide) hn)
      refine r_iload dX7_tell_88 rfl ?_
      refine r_bipush (v := (-20)) dX7_tell_90 rfl ?_
      refine r_icmp_le (tgt := 180) dX7_tell_92 (by decide) (fun _ => ?_) (fun hn => absurd (by decide) hn)
      refine r_iload dX7_tell_180 rfl ?_
      refine r_bipush (v := (-22)) dX7_tell_182 rfl ?_
      refine r_icmp_ne (tgt := 219) dX7_tell_184 (by decide) (fun _ => ?_) (fun hn => absurd hn (by decide))
      refine r_iload dX7_tell_219 rfl ?_
      refine r_bipush (v := (-28)) dX7_tell_221 rfl ?_
      refine r_icmp_ne (tgt := 248) dX7_tell_223 (by decide) (fun hn => absurd (by decide) hn) (fun _ => ?_)
      refine r_aload_n dX7_tell_226 rfl ?_
      refine r_getR dX7_tell_227 fl_X7_40 (ly_38 hE) rfl ?_
      refine r_iload dX7_tell_230 rfl ?_
      refine r_iconst (v := 1) dX7_tell_232 rfl ?_
      refine r_isub dX7_tell_233 ?_
      refine r_rw (y := nI t.length) (nI_pred _) ?_
      refine r_aload_n dX7_tell_234 rfl ?_
      refine r_getR dX7_tell_235 fl_X7_40 (ly_38 hE) rfl ?_
      refine r_iload dX7_tell_238 rfl ?_
      refine r_iconst (v := 1) dX7_tell_240 rfl ?_
      refine r_isub dX7_tell_241 ?_
      refine r_rw (y := nI t.length) (nI_pred _) ?_
      refine r_ialdN dX7_tell_242 (ly_46 hE) (by simp only [List.length_cons] at hsl; omega) (by decide) ?_
      refine r_rw (y := q) (show va_up A 46 g 46 t.length = q by rw [va_up_eq]; exact hq) ?_
      refine r_ineg dX7_tell_243 ?_
      refine r_iastN dX7_tell_244 (ly_46 hE) (by simp only [List.length_cons] at hsl; omega) (by decide) ?_
      refine r_goto (tgt := 281) dX7_tell_245 (by decide) ?_
      refine r_iinc (v := (nI (i + 1))) (loc' := [(7, .int (nI (i + 1))), (8, .int (-28)), (6, .int (nI (t.length + 1))), (5, .int z), (4, .int (nI r)), (0, .ref 38), (1, .int (nI part)), (2, .int wd), (3, .int a)]) dX7_tell_281 rfl ((nI_succ _).symm) (by decide) rfl ?_
      refine r_goto (tgt := 36) dX7_tell_284 (by decide) ?_
      refine qG.pick [0, 2, 3, 4, 5, 6, 7, 8] rfl ?_
      rw [s2_up]
      rw [ej, rst_neg] at h
      exact ih (i + 1) (-q :: t) _ (by omega) (by simp only [List.length_cons] at hsl ⊢; omega) hok' (sk_push hs.2) h
    · obtain ⟨hpos, hok'⟩ := rok_bop hok hb
      obtain ⟨q, p, t, rfl⟩ := len2 hpos
      have hq : g (t.length + 1) = q := hs.1
      have hp' : g t.length = p := hs.2.1
      obtain ⟨b1, b2, b3, b4⟩ := bop_lo hb
      generalize ec : f i = c at *
      refine r_iload dX7_tell_36 rfl ?_
      refine r_aload_n dX7_tell_38 rfl ?_
      refine r_getR dX7_tell_39 fl_X7_22 (ly_38 hE) rfl ?_
      refine r_iconst (v := 3) dX7_tell_42 rfl ?_
      refine r_iload dX7_tell_43 rfl ?_
      refine r_imul dX7_tell_45 ?_
      refine r_iload_n dX7_tell_46 rfl ?_
      refine r_iadd dX7_tell_47 ?_
      refine r_rw (y := nI (3 * r + part)) (show nI 3 * nI r + nI part = _ by rw [pk_mul, nI_add]) ?_
      refine r_ialdN dX7_tell_48 (ly_43 hE) (by omega) (by decide) ?_
      refine r_rw (y := nI e) (show va_up A 46 g 43 (3 * r + part) = nI e from he) ?_
      refine r_icmp_ge (tgt := 287) dX7_tell_49 (by decide) (fun hn => absurd hn (nI_ge hie (by omega))) (fun _ => ?_)
      refine r_aload_n dX7_tell_52 rfl ?_
      refine r_getR dX7_tell_53 fl_X7_19 (ly_38 hE) rfl ?_
      refine r_sipush (v := 160) dX7_tell_56 rfl ?_
      refine r_iload dX7_tell_59 rfl ?_
      refine r_imul dX7_tell_61 ?_
      refine r_iload dX7_tell_62 rfl ?_
      refine r_iadd dX7_tell_64 ?_
      refine r_rw (y := nI (160 * r + i)) (show nI 160 * nI r + nI i = _ by rw [pk_mul, nI_add]) ?_
      refine r_ialdN dX7_tell_65 (ly_42 hE) (by omega) (by decide) ?_
      refine r_rw (y := c) (show va_up A 46 g 42 (160 * r + i) = c from hfi) ?_
      refine r_istore (loc' := [(8, .int c), (7, .int (nI i)), (6, .int (nI (t.length + 2))), (5, .int z), (4, .int (nI r)), (0, .ref 38), (1, .int (nI part)), (2, .int wd), (3, .int a)]) dX7_tell_66 (by decide) rfl ?_
      refine r_iload dX7_tell_68 rfl ?_
      refine r_if_lt (tgt := 88) dX7_tell_70 (by decide) (fun _ => ?_) (fun hn => absurd (show c < 0 by simp only [i_le, i_lt] at *; omega) hn)
      refine r_iload dX7_tell_88 rfl ?_
      refine r_bipush (v := (-20)) dX7_tell_90 rfl ?_
      refine r_icmp_le (tgt := 180) dX7_tell_92 (by decide) (fun _ => ?_) (fun hn => absurd (show c ≤ -20 by simp only [i_le, i_lt] at *; omega) hn)
      refine r_iload dX7_tell_180 rfl ?_
      refine r_bipush (v := (-22)) dX7_tell_182 rfl ?_
      refine r_icmp_ne (tgt := 219) dX7_tell_184 (by decide) (fun _ => ?_) (fun hn => absurd hn b3)
      refine r_iload dX7_tell_219 rfl ?_
      refine r_bipush (v := (-28)) dX7_tell_221 rfl ?_
      refine r_icmp_ne (tgt := 248) dX7_tell_223 (by decide) (fun _ => ?_) (fun hn => absurd hn b4)
      refine r_iinc (v := (nI (t.length + 1))) (loc' := [(6, .int (nI (t.length + 1))), (8, .int c), (7, .int (nI i)), (5, .int z), (4, .int (nI r)), (0, .ref 38), (1, .int (nI part)), (2, .int wd), (3, .int a)]) dX7_tell_248 rfl (pk_m1 _) (by decide) rfl ?_
      refine r_aload_n dX7_tell_251 rfl ?_
      refine r_getR dX7_tell_252 fl_X7_40 (ly_38 hE) rfl ?_
      refine r_iload dX7_tell_255 rfl ?_
      refine r_iconst (v := 1) dX7_tell_257 rfl ?_
      refine r_isub dX7_tell_258 ?_
      refine r_rw (y := nI t.length) (nI_pred _) ?_
      refine r_iload dX7_tell_259 rfl ?_
      refine r_aload_n dX7_tell_261 rfl ?_
      refine r_getR dX7_tell_262 fl_X7_40 (ly_38 hE) rfl ?_
      refine r_iload dX7_tell_265 rfl ?_
      refine r_iconst (v := 1) dX7_tell_267 rfl ?_
      refine r_isub dX7_tell_268 ?_
      refine r_rw (y := nI t.length) (nI_pred _) ?_
      refine r_ialdN dX7_tell_269 (ly_46 hE) (by simp only [List.length_cons] at hsl; omega) (by decide) ?_
      refine r_rw (y := p) (show va_up A 46 g 46 t.length = p by rw [va_up_eq]; exact hp') ?_
      refine r_aload_n dX7_tell_270 rfl ?_
      refine r_getR dX7_tell_271 fl_X7_40 (ly_38 hE) rfl ?_
      refine r_iload dX7_tell_274 rfl ?_
      refine r_ialdN dX7_tell_276 (ly_46 hE) (by simp only [List.length_cons] at hsl; omega) (by decide) ?_
      refine r_rw (y := q) (show va_up A 46 g 46 (t.length + 1) = q by rw [va_up_eq]; exact hq) ?_
      refine r_callS3 dX7_tell_277 lk_X7_196 (Nat.le_of_ble_eq_true rfl) (sp_X7_deed hb ?_)
      refine r_iastN dX7_tell_280 (ly_46 hE) (by simp only [List.length_cons] at hsl; omega) (by decide) ?_
      refine r_iinc (v := (nI (i + 1))) (loc' := [(7, .int (nI (i + 1))), (6, .int (nI (t.length + 1))), (8, .int c), (5, .int z), (4, .int (nI r)), (0, .ref 38), (1, .int (nI part)), (2, .int wd), (3, .int a)]) dX7_tell_281 rfl ((nI_succ _).symm) (by decide) rfl ?_
      refine r_goto (tgt := 36) dX7_tell_284 (by decide) ?_
      refine qG.pick [0, 1, 3, 4, 5, 6, 7, 8] rfl ?_
      rw [s2_up]
      rw [rst_bop hb] at h
      exact ih (i + 1) (dd c p q :: t) _ (by omega) (by simp only [List.length_cons] at hsl ⊢; omega) hok' (sk_push hs.2.2) h
end TELL
