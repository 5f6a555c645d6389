/-! pairs, film -/
theorem hd_le {i k y : Nat} (hi : i < 2 ^ 31) (hk : k < 2 ^ 31) (hy : y ≤ 40) (h : Hd (nI i) (nI k) y) : i + k ≤ y := by
  obtain ⟨a, b, e1, e2, h⟩ := h
  have ha : a < 2 ^ 31 := by omega
  have hb : b < 2 ^ 31 := by omega
  have e1 := (nI_eq hi ha).mp e1
  have e2 := (nI_eq hk hb).mp e2
  omega
theorem prs_le {w y : Nat} (hw : w < 2 ^ 31) (hy : y ≤ 40) (h : ¬ w + 3 ≤ y) : ¬ nI w ≤ nI y - 3 := by
  intro q
  rw [i_le, show nI y - 3 = nI y - nI 3 from rfl, sub_int hy (by decide), nI_toInt hw] at q
  omega
theorem prs_far {f : Int32} {y : Nat} (hy : y ≤ 40) (h0 : ¬ f < 0) (h : ∀ x, x < 40 → f ≠ nI x) : ¬ f ≤ nI y - 3 := by
  intro q
  obtain ⟨x, hx, rfl⟩ := nI_of h0
  have : ¬ x < 40 := fun z => h x z rfl
  exact prs_le hx hy (by omega) q
theorem hd_m1 {m : Int32} {y : Nat} (hy : y ≤ 40) : ¬ Hd (-1) m y := by
  rintro ⟨i, k, e, -, h⟩
  exact nI_nm1 (show i < 2 ^ 31 by omega) e.symm
section OPS13
variable {E : mE} {d : Nat} {A S : mA} {L : mJ} {Ph : mP} {T n z p r s q : Nat}
set_option maxRecDepth 100000 in
set_option maxHeartbeats 1000000 in
theorem prs_loop (hE : hM E) (hs : s < 4) {sv tv fv : Int32} {y m : Nat} (hy : y ≤ 40) (hm : m ≤ 5) : ∀ (k i : Nat) (c : Int32) (S : mA) (n : Nat), i + k = m → WfS S T n z → S 54 s = nI y → (i = 0 ∨ ∃ x, x < 40 ∧ fv = nI x) → ∃ (r : Int32) (S' : mA) (n' : Nat), WfS S' T n' z ∧
    (∀ (A : mA) (L : mJ) (Ph : mP), RC A S T n z → (∀ A', RC A' S' T n' z → (∀ k, 38 ≤ k → A' k = A k) → Ph (some (.int r)) A' L) → qG E mm_X6_pairs (d + 3) 74 [(7, .int (nI i)), (6, .int c), (5, .ref (8 + s)), (0, .ref 0), (1, .int sv), (2, .int tv), (3, .int fv), (4, .int (nI m))] [] A L Ph) ∧
    (∀ (A : mA) (L : mJ) (Ph : mP), RM A S T → (∀ A', RM A' S' T → (∀ k, k < 38 → A' k = A k) → Ph (some (.int r)) A' L) → qG E mm_X7_pairs (d + 3) 61 [(6, .int (nI i)), (5, .int c), (0, .ref 38), (1, .int (nI s)), (2, .int tv), (3, .int fv), (4, .int (nI m))] [] A L Ph) := by
  have hEc := hE.c
  intro k
  induction k with
  | zero =>
    intro i c S n hi hW h54 hf
    have hi : i = m := by omega
    subst hi
    refine ⟨c, S, n, hW, fun A L Ph hR hk => ?_, fun A L Ph hR hk => ?_⟩
    · have K := hk A hR (fun _ _ => rfl)
      refine r_iload dX6_pairs_74 rfl ?_
      refine r_iload dX6_pairs_76 rfl ?_
      refine r_icmp_ge (tgt := 164) dX6_pairs_78 (by decide) (fun _ => ?_) (fun hqz => absurd (nI_le (Nat.le_refl _) (by omega)) hqz)
      refine r_iload dX6_pairs_164 rfl ?_
      refine r_ireturn dX6_pairs_166 rfl rfl ?_
      exact K
    · have K := hk A hR (fun _ _ => rfl)
      refine r_iload dX7_pairs_61 rfl ?_
      refine r_iload dX7_pairs_63 rfl ?_
      refine r_icmp_ge (tgt := 153) dX7_pairs_65 (by decide) (fun _ => ?_) (fun hqz => absurd (nI_le (Nat.le_refl _) (by omega)) hqz)
      refine r_iload dX7_pairs_153 rfl ?_
      refine r_ireturn dX7_pairs_155 rfl rfl ?_
      exact K
  | succ k ih =>
    intro i c S n hi hW h54 hf
    by_cases hx : ∃ x, x < 40 ∧ fv = nI x
    · obtain ⟨x, hx, rfl⟩ := hx
      by_cases hin : x + 3 * i + 3 ≤ y
      · obtain ⟨r1, S1, n1, w1, c1, m1, e53, e54, e55⟩ := op_pair (d := d + 1) hE hW (S 55 (40 * s + (x + 3 * i) + 0)) (S 55 (40 * s + (x + 3 * i) + 1)) (S 55 (40 * s + (x + 3 * i) + 2))
        obtain ⟨r, S', n', w', c', m'⟩ := ih (i + 1) (c + if r1 < 0 then 0 else 1) S1 n1 (by omega) w1 (by rw [e54]; exact h54) (Or.inr ⟨x, hx, rfl⟩)
        refine ⟨r, S', n', w', fun A L Ph hR hk => ?_, fun A L Ph hR hk => ?_⟩
        · obtain ⟨-, a2, a3⟩ := hR.2.2.2.2.2 s hs
          refine r_iload dX6_pairs_74 rfl ?_
          refine r_iload dX6_pairs_76 rfl ?_
          refine r_icmp_ge (tgt := 164) dX6_pairs_78 (by decide) (fun hqz => absurd hqz (nI_ge (show i < m by omega) (by omega))) (fun _ => ?_)
          refine r_iload_n dX6_pairs_81 rfl ?_
          refine r_bipush (v := 40) dX6_pairs_82 rfl ?_
          refine r_callS2 dX6_pairs_84 lk_X6_100 (Nat.le_of_ble_eq_true rfl) (win_t (lim := 40) rfl (by decide) hx ?_)
          refine r_if_eq (tgt := 99) dX6_pairs_87 (by decide) (fun hqz => absurd hqz (by decide)) (fun _ => ?_)
          refine r_iload_n dX6_pairs_90 rfl ?_
          refine r_iconst (v := 3) dX6_pairs_91 rfl ?_
          refine r_iload dX6_pairs_92 rfl ?_
          refine r_imul dX6_pairs_94 ?_
          refine r_iadd dX6_pairs_95 ?_
          refine r_rw (y := nI (x + 3 * i)) (show nI x + nI 3 * nI i = _ by rw [pk_mul, nI_add]) ?_
          refine r_goto (tgt := 100) dX6_pairs_96 (by decide) ?_
          refine r_istore (loc' := [(8, .int (nI (x + 3 * i))), (7, .int (nI i)), (6, .int c), (5, .ref (8 + s)), (0, .ref 0), (1, .int sv), (2, .int tv), (3, .int (nI x)), (4, .int (nI m))]) dX6_pairs_100 (by decide) rfl ?_
          refine r_aload dX6_pairs_102 rfl ?_
          refine r_iload dX6_pairs_104 rfl ?_
          refine r_iconst (v := 3) dX6_pairs_106 rfl ?_
          refine r_callV2 dX6_pairs_107 lk_X6_310 (ly_sh hEc hs) rfl (Nat.le_of_ble_eq_true rfl) (sp_holds hEc hs hy (a2.trans h54) (fun _ => ?_) (fun q => absurd ⟨x + 3 * i, 3, rfl, rfl, hin⟩ q))
          refine r_if_ne (tgt := 116) dX6_pairs_110 (by decide) (fun _ => ?_) (fun hqz => absurd hqz (by decide))
          refine r_iload dX6_pairs_116 rfl ?_
          refine r_aload_n dX6_pairs_118 rfl ?_
          refine r_aload dX6_pairs_119 rfl ?_
          refine r_iload dX6_pairs_121 rfl ?_
          refine r_callV1 dX6_pairs_123 lk_X6_277 (ly_sh hEc hs) rfl (Nat.le_of_ble_eq_true rfl) (at_ok hEc hs hy (a2.trans h54) (by omega) ?_)
          refine r_rw (y := S 55 (40 * s + (x + 3 * i) + 0)) ((a3 _ (by omega)).trans (congrArg (S 55) (by omega))) ?_
          refine r_aload dX6_pairs_126 rfl ?_
          refine r_iload dX6_pairs_128 rfl ?_
          refine r_iconst (v := 1) dX6_pairs_130 rfl ?_
          refine r_iadd dX6_pairs_131 ?_
          refine r_rw (y := nI (x + 3 * i + 1)) (show nI (x + 3 * i) + nI 1 = _ by rw [nI_add]) ?_
          refine r_callV1 dX6_pairs_132 lk_X6_277 (ly_sh hEc hs) rfl (Nat.le_of_ble_eq_true rfl) (at_ok hEc hs hy (a2.trans h54) (by omega) ?_)
          refine r_rw (y := S 55 (40 * s + (x + 3 * i) + 1)) ((a3 _ (by omega)).trans (congrArg (S 55) (by omega))) ?_
          refine r_aload dX6_pairs_135 rfl ?_
          refine r_iload dX6_pairs_137 rfl ?_
          refine r_iconst (v := 2) dX6_pairs_139 rfl ?_
          refine r_iadd dX6_pairs_140 ?_
          refine r_rw (y := nI (x + 3 * i + 2)) (show nI (x + 3 * i) + nI 2 = _ by rw [nI_add]) ?_
          refine r_callV1 dX6_pairs_141 lk_X6_277 (ly_sh hEc hs) rfl (Nat.le_of_ble_eq_true rfl) (at_ok hEc hs hy (a2.trans h54) (by omega) ?_)
          refine r_rw (y := S 55 (40 * s + (x + 3 * i) + 2)) ((a3 _ (by omega)).trans (congrArg (S 55) (by omega))) ?_
          refine r_callV3 dX6_pairs_144 lk_X6_322 (ly_0 hEc) rfl (Nat.le_of_ble_eq_true rfl) (c1 A L _ hR (fun A1 R1 hi1 _ => ?_))
          refine r_if_lt (tgt := 154) dX6_pairs_147 (by decide) (fun b147 => ?_) (fun b147 => ?_)
          · refine r_iconst (v := 0) dX6_pairs_154 rfl ?_
            refine r_iadd dX6_pairs_155 ?_
            refine r_topi (fun v156 e156 => ?_)
            refine r_istore (loc' := [(6, .int v156), (8, .int (nI (x + 3 * i))), (7, .int (nI i)), (5, .ref (8 + s)), (0, .ref 0), (1, .int sv), (2, .int tv), (3, .int (nI x)), (4, .int (nI m))]) dX6_pairs_156 (by decide) rfl ?_
            refine r_iinc (v := (nI (i + 1))) (loc' := [(7, .int (nI (i + 1))), (6, .int v156), (8, .int (nI (x + 3 * i))), (5, .ref (8 + s)), (0, .ref 0), (1, .int sv), (2, .int tv), (3, .int (nI x)), (4, .int (nI m))]) dX6_pairs_158 rfl ((nI_succ _).symm) (by decide) rfl ?_
            refine r_goto (tgt := 74) dX6_pairs_161 (by decide) ?_
            refine qG.pick [0, 1, 3, 4, 5, 6, 7, 8] rfl ?_
            have J := c' A1 L Ph R1 (fun A2 R2 hi2' => hk A2 R2 (hi2 hi1 hi2'))
            rw [show c + (if r1 < 0 then (0 : Int32) else 1) = v156 from by subst e156; first | (rw [if_pos b147]; done) | (rw [if_neg b147]; done)] at J
            exact J
          · refine r_iconst (v := 1) dX6_pairs_150 rfl ?_
            refine r_goto (tgt := 155) dX6_pairs_151 (by decide) ?_
            refine r_iadd dX6_pairs_155 ?_
            refine r_topi (fun v156 e156 => ?_)
            refine r_istore (loc' := [(6, .int v156), (8, .int (nI (x + 3 * i))), (7, .int (nI i)), (5, .ref (8 + s)), (0, .ref 0), (1, .int sv), (2, .int tv), (3, .int (nI x)), (4, .int (nI m))]) dX6_pairs_156 (by decide) rfl ?_
            refine r_iinc (v := (nI (i + 1))) (loc' := [(7, .int (nI (i + 1))), (6, .int v156), (8, .int (nI (x + 3 * i))), (5, .ref (8 + s)), (0, .ref 0), (1, .int sv), (2, .int tv), (3, .int (nI x)), (4, .int (nI m))]) dX6_pairs_158 rfl ((nI_succ _).symm) (by decide) rfl ?_
            refine r_goto (tgt := 74) dX6_pairs_161 (by decide) ?_
            refine qG.pick [0, 1, 3, 4, 5, 6, 7, 8] rfl ?_
            have J := c' A1 L Ph R1 (fun A2 R2 hi2' => hk A2 R2 (hi2 hi1 hi2'))
            rw [show c + (if r1 < 0 then (0 : Int32) else 1) = v156 from by subst e156; first | (rw [if_pos b147]; done) | (rw [if_neg b147]; done)] at J
            exact J
        · have r54 := hR.2.2.2.2.2.2.2.2.2.1
          have r55 := hR.2.2.2.2.2.2.2.2.2.2.1
          refine r_iload dX7_pairs_61 rfl ?_
          refine r_iload dX7_pairs_63 rfl ?_
          refine r_icmp_ge (tgt := 153) dX7_pairs_65 (by decide) (fun hqz => absurd hqz (nI_ge (show i < m by omega) (by omega))) (fun _ => ?_)
          refine r_iload_n dX7_pairs_68 rfl ?_
          refine r_iconst (v := 3) dX7_pairs_69 rfl ?_
          refine r_iload dX7_pairs_70 rfl ?_
          refine r_imul dX7_pairs_72 ?_
          refine r_iadd dX7_pairs_73 ?_
          refine r_rw (y := nI (x + 3 * i)) (show nI x + nI 3 * nI i = _ by rw [pk_mul, nI_add]) ?_
          refine r_istore (loc' := [(7, .int (nI (x + 3 * i))), (6, .int (nI i)), (5, .int c), (0, .ref 38), (1, .int (nI s)), (2, .int tv), (3, .int (nI x)), (4, .int (nI m))]) dX7_pairs_74 (by decide) rfl ?_
          refine r_iload_n dX7_pairs_76 rfl ?_
          refine r_if_lt (tgt := 93) dX7_pairs_77 (by decide) (fun hqz => absurd hqz (nI_pos (by omega))) (fun _ => ?_)
          refine r_iload dX7_pairs_80 rfl ?_
          refine r_aload_n dX7_pairs_82 rfl ?_
          refine r_getR dX7_pairs_83 fl_X7_66 (ly_38 hE) rfl ?_
          refine r_iload_n dX7_pairs_86 rfl ?_
          refine r_ialdN dX7_pairs_87 (ly_54 hE) (by omega) (by decide) ?_
          refine r_rw (y := nI y) (by rw [r54]; exact h54) ?_
          refine r_iconst (v := 3) dX7_pairs_88 rfl ?_
          refine r_isub dX7_pairs_89 ?_
          refine r_rw (y := nI (y - 3)) (pk_sub (show 3 ≤ y by omega)) ?_
          refine r_icmp_le (tgt := 96) dX7_pairs_90 (by decide) (fun _ => ?_) (fun hqz => absurd (nI_le (by omega) (by omega)) hqz)
          refine r_bipush (v := 40) dX7_pairs_96 rfl ?_
          refine r_iload_n dX7_pairs_98 rfl ?_
          refine r_imul dX7_pairs_99 ?_
          refine r_iload dX7_pairs_100 rfl ?_
          refine r_iadd dX7_pairs_102 ?_
          refine r_rw (y := nI (40 * s + (x + 3 * i))) (show nI 40 * nI s + nI (x + 3 * i) = _ by rw [pk_mul, nI_add]) ?_
          refine r_istore (loc' := [(8, .int (nI (40 * s + (x + 3 * i)))), (7, .int (nI (x + 3 * i))), (6, .int (nI i)), (5, .int c), (0, .ref 38), (1, .int (nI s)), (2, .int tv), (3, .int (nI x)), (4, .int (nI m))]) dX7_pairs_103 (by decide) rfl ?_
          refine r_iload dX7_pairs_105 rfl ?_
          refine r_aload_n dX7_pairs_107 rfl ?_
          refine r_aload_n dX7_pairs_108 rfl ?_
          refine r_getR dX7_pairs_109 fl_X7_69 (ly_38 hE) rfl ?_
          refine r_iload dX7_pairs_112 rfl ?_
          refine r_ialdN dX7_pairs_114 (ly_55 hE) (by omega) (by decide) ?_
          refine r_rw (y := S 55 (40 * s + (x + 3 * i) + 0)) (by rw [r55]; rfl) ?_
          refine r_aload_n dX7_pairs_115 rfl ?_
          refine r_getR dX7_pairs_116 fl_X7_69 (ly_38 hE) rfl ?_
          refine r_iload dX7_pairs_119 rfl ?_
          refine r_iconst (v := 1) dX7_pairs_121 rfl ?_
          refine r_iadd dX7_pairs_122 ?_
          refine r_rw (y := nI (40 * s + (x + 3 * i) + 1)) (show nI _ + nI 1 = _ by rw [nI_add]) ?_
          refine r_ialdN dX7_pairs_123 (ly_55 hE) (by omega) (by decide) ?_
          refine r_rw (y := S 55 (40 * s + (x + 3 * i) + 1)) (by rw [r55]) ?_
          refine r_aload_n dX7_pairs_124 rfl ?_
          refine r_getR dX7_pairs_125 fl_X7_69 (ly_38 hE) rfl ?_
          refine r_iload dX7_pairs_128 rfl ?_
          refine r_iconst (v := 2) dX7_pairs_130 rfl ?_
          refine r_iadd dX7_pairs_131 ?_
          refine r_rw (y := nI (40 * s + (x + 3 * i) + 2)) (show nI _ + nI 2 = _ by rw [nI_add]) ?_
          refine r_ialdN dX7_pairs_132 (ly_55 hE) (by omega) (by decide) ?_
          refine r_rw (y := S 55 (40 * s + (x + 3 * i) + 2)) (by rw [r55]) ?_
          refine r_callV3 dX7_pairs_133 lk_X7_257 (ly_38 hE) rfl (Nat.le_of_ble_eq_true rfl) (m1 A L _ hR (fun A1 R1 lo1 => ?_))
          refine r_if_lt (tgt := 143) dX7_pairs_136 (by decide) (fun b136 => ?_) (fun b136 => ?_)
          · refine r_iconst (v := 0) dX7_pairs_143 rfl ?_
            refine r_iadd dX7_pairs_144 ?_
            refine r_topi (fun v145 e145 => ?_)
            refine r_istore (loc' := [(5, .int v145), (8, .int (nI (40 * s + (x + 3 * i)))), (7, .int (nI (x + 3 * i))), (6, .int (nI i)), (0, .ref 38), (1, .int (nI s)), (2, .int tv), (3, .int (nI x)), (4, .int (nI m))]) dX7_pairs_145 (by decide) rfl ?_
            refine r_iinc (v := (nI (i + 1))) (loc' := [(6, .int (nI (i + 1))), (5, .int v145), (8, .int (nI (40 * s + (x + 3 * i)))), (7, .int (nI (x + 3 * i))), (0, .ref 38), (1, .int (nI s)), (2, .int tv), (3, .int (nI x)), (4, .int (nI m))]) dX7_pairs_147 rfl ((nI_succ _).symm) (by decide) rfl ?_
            refine r_goto (tgt := 61) dX7_pairs_150 (by decide) ?_
            refine qG.pick [0, 1, 4, 5, 6, 7, 8] rfl ?_
            have J := m' A1 L Ph R1 (fun A2 R2 lo2' => hk A2 R2 (lo2 lo1 lo2'))
            rw [show c + (if r1 < 0 then (0 : Int32) else 1) = v145 from by subst e145; first | (rw [if_pos b136]; done) | (rw [if_neg b136]; done)] at J
            exact J
          · refine r_iconst (v := 1) dX7_pairs_139 rfl ?_
            refine r_goto (tgt := 144) dX7_pairs_140 (by decide) ?_
            refine r_iadd dX7_pairs_144 ?_
            refine r_topi (fun v145 e145 => ?_)
            refine r_istore (loc' := [(5, .int v145), (8, .int (nI (40 * s + (x + 3 * i)))), (7, .int (nI (x + 3 * i))), (6, .int (nI i)), (0, .ref 38), (1, .int (nI s)), (2, .int tv), (3, .int (nI x)), (4, .int (nI m))]) dX7_pairs_145 (by decide) rfl ?_
            refine r_iinc (v := (nI (i + 1))) (loc' := [(6, .int (nI (i + 1))), (5, .int v145), (8, .int (nI (40 * s + (x + 3 * i)))), (7, .int (nI (x + 3 * i))), (0, .ref 38), (1, .int (nI s)), (2, .int tv), (3, .int (nI x)), (4, .int (nI m))]) dX7_pairs_147 rfl ((nI_succ _).symm) (by decide) rfl ?_
            refine r_goto (tgt := 61) dX7_pairs_150 (by decide) ?_
            refine qG.pick [0, 1, 4, 5, 6, 7, 8] rfl ?_
            have J := m' A1 L Ph R1 (fun A2 R2 lo2' => hk A2 R2 (lo2 lo1 lo2'))
            rw [show c + (if r1 < 0 then (0 : Int32) else 1) = v145 from by subst e145; first | (rw [if_pos b136]; done) | (rw [if_neg b136]; done)] at J
            exact J
      · refine ⟨-12, S, n, hW, fun A L Ph hR hk => ?_, fun A L Ph hR hk => ?_⟩
        · have K := hk A hR (fun _ _ => rfl)
          obtain ⟨-, a2, a3⟩ := hR.2.2.2.2.2 s hs
          refine r_iload dX6_pairs_74 rfl ?_
          refine r_iload dX6_pairs_76 rfl ?_
          refine r_icmp_ge (tgt := 164) dX6_pairs_78 (by decide) (fun hqz => absurd hqz (nI_ge (show i < m by omega) (by omega))) (fun _ => ?_)
          refine r_iload_n dX6_pairs_81 rfl ?_
          refine r_bipush (v := 40) dX6_pairs_82 rfl ?_
          refine r_callS2 dX6_pairs_84 lk_X6_100 (Nat.le_of_ble_eq_true rfl) (win_t (lim := 40) rfl (by decide) hx ?_)
          refine r_if_eq (tgt := 99) dX6_pairs_87 (by decide) (fun hqz => absurd hqz (by decide)) (fun _ => ?_)
          refine r_iload_n dX6_pairs_90 rfl ?_
          refine r_iconst (v := 3) dX6_pairs_91 rfl ?_
          refine r_iload dX6_pairs_92 rfl ?_
          refine r_imul dX6_pairs_94 ?_
          refine r_iadd dX6_pairs_95 ?_
          refine r_rw (y := nI (x + 3 * i)) (show nI x + nI 3 * nI i = _ by rw [pk_mul, nI_add]) ?_
          refine r_goto (tgt := 100) dX6_pairs_96 (by decide) ?_
          refine r_istore (loc' := [(8, .int (nI (x + 3 * i))), (7, .int (nI i)), (6, .int c), (5, .ref (8 + s)), (0, .ref 0), (1, .int sv), (2, .int tv), (3, .int (nI x)), (4, .int (nI m))]) dX6_pairs_100 (by decide) rfl ?_
          refine r_aload dX6_pairs_102 rfl ?_
          refine r_iload dX6_pairs_104 rfl ?_
          refine r_iconst (v := 3) dX6_pairs_106 rfl ?_
          refine r_callV2 dX6_pairs_107 lk_X6_310 (ly_sh hEc hs) rfl (Nat.le_of_ble_eq_true rfl) (sp_holds hEc hs hy (a2.trans h54) (fun q => absurd (hd_le (by omega) (by decide) hy q) hin) (fun _ => ?_))
          refine r_if_ne (tgt := 116) dX6_pairs_110 (by decide) (fun hqz => absurd (by decide) hqz) (fun _ => ?_)
          refine r_bipush (v := (-12)) dX6_pairs_113 rfl ?_
          refine r_ireturn dX6_pairs_115 rfl rfl ?_
          exact K
        · have K := hk A hR (fun _ _ => rfl)
          have r54 := hR.2.2.2.2.2.2.2.2.2.1
          refine r_iload dX7_pairs_61 rfl ?_
          refine r_iload dX7_pairs_63 rfl ?_
          refine r_icmp_ge (tgt := 153) dX7_pairs_65 (by decide) (fun hqz => absurd hqz (nI_ge (show i < m by omega) (by omega))) (fun _ => ?_)
          refine r_iload_n dX7_pairs_68 rfl ?_
          refine r_iconst (v := 3) dX7_pairs_69 rfl ?_
          refine r_iload dX7_pairs_70 rfl ?_
          refine r_imul dX7_pairs_72 ?_
          refine r_iadd dX7_pairs_73 ?_
          refine r_rw (y := nI (x + 3 * i)) (show nI x + nI 3 * nI i = _ by rw [pk_mul, nI_add]) ?_
          refine r_istore (loc' := [(7, .int (nI (x + 3 * i))), (6, .int (nI i)), (5, .int c), (0, .ref 38), (1, .int (nI s)), (2, .int tv), (3, .int (nI x)), (4, .int (nI m))]) dX7_pairs_74 (by decide) rfl ?_
          refine r_iload_n dX7_pairs_76 rfl ?_
          refine r_if_lt (tgt := 93) dX7_pairs_77 (by decide) (fun hqz => absurd hqz (nI_pos (by omega))) (fun _ => ?_)
          refine r_iload dX7_pairs_80 rfl ?_
          refine r_aload_n dX7_pairs_82 rfl ?_
          refine r_getR dX7_pairs_83 fl_X7_66 (ly_38 hE) rfl ?_
          refine r_iload_n dX7_pairs_86 rfl ?_
          refine r_ialdN dX7_pairs_87 (ly_54 hE) (by omega) (by decide) ?_
          refine r_rw (y := nI y) (by rw [r54]; exact h54) ?_
          refine r_iconst (v := 3) dX7_pairs_88 rfl ?_
          refine r_isub dX7_pairs_89 ?_
          refine r_icmp_le (tgt := 96) dX7_pairs_90 (by decide) (fun hqz => absurd hqz (prs_le (by omega) hy hin)) (fun _ => ?_)
          refine r_bipush (v := (-12)) dX7_pairs_93 rfl ?_
          refine r_ireturn dX7_pairs_95 rfl rfl ?_
          exact K
    · have hx' : ∀ x, x < 40 → fv ≠ nI x := fun x h e => hx ⟨x, h, e⟩
      have hi0 : i = 0 := hf.resolve_right hx
      subst hi0
      refine ⟨-12, S, n, hW, fun A L Ph hR hk => ?_, fun A L Ph hR hk => ?_⟩
      · have K := hk A hR (fun _ _ => rfl)
        obtain ⟨-, a2, a3⟩ := hR.2.2.2.2.2 s hs
        refine r_iload dX6_pairs_74 rfl ?_
        refine r_iload dX6_pairs_76 rfl ?_
        refine r_icmp_ge (tgt := 164) dX6_pairs_78 (by decide) (fun hqz => absurd hqz (nI_ge (show 0 < m by omega) (by omega))) (fun _ => ?_)
        refine r_iload_n dX6_pairs_81 rfl ?_
        refine r_bipush (v := 40) dX6_pairs_82 rfl ?_
        refine r_callS2 dX6_pairs_84 lk_X6_100 (Nat.le_of_ble_eq_true rfl) (win_f 40 rfl (by decide) hx' ?_)
        refine r_if_eq (tgt := 99) dX6_pairs_87 (by decide) (fun _ => ?_) (fun hqz => absurd (by decide) hqz)
        refine r_iconst (v := (-1)) dX6_pairs_99 rfl ?_
        refine r_istore (loc' := [(8, .int (-1)), (7, .int (nI 0)), (6, .int c), (5, .ref (8 + s)), (0, .ref 0), (1, .int sv), (2, .int tv), (3, .int fv), (4, .int (nI m))]) dX6_pairs_100 (by decide) rfl ?_
        refine r_aload dX6_pairs_102 rfl ?_
        refine r_iload dX6_pairs_104 rfl ?_
        refine r_iconst (v := 3) dX6_pairs_106 rfl ?_
        refine r_callV2 dX6_pairs_107 lk_X6_310 (ly_sh hEc hs) rfl (Nat.le_of_ble_eq_true rfl) (sp_holds hEc hs hy (a2.trans h54) (fun q => absurd q (hd_m1 hy)) (fun _ => ?_))
        refine r_if_ne (tgt := 116) dX6_pairs_110 (by decide) (fun hqz => absurd (by decide) hqz) (fun _ => ?_)
        refine r_bipush (v := (-12)) dX6_pairs_113 rfl ?_
        refine r_ireturn dX6_pairs_115 rfl rfl ?_
        exact K
      · have K := hk A hR (fun _ _ => rfl)
        have r54 := hR.2.2.2.2.2.2.2.2.2.1
        refine r_iload dX7_pairs_61 rfl ?_
        refine r_iload dX7_pairs_63 rfl ?_
        refine r_icmp_ge (tgt := 153) dX7_pairs_65 (by decide) (fun hqz => absurd hqz (nI_ge (show 0 < m by omega) (by omega))) (fun _ => ?_)
        refine r_iload_n dX7_pairs_68 rfl ?_
        refine r_iconst (v := 3) dX7_pairs_69 rfl ?_
        refine r_iload dX7_pairs_70 rfl ?_
        refine r_imul dX7_pairs_72 ?_
        refine r_iadd dX7_pairs_73 ?_
        refine r_rw (y := fv) (show fv + 3 * 0 = fv by rw [Int32.mul_zero, Int32.add_zero]) ?_
        refine r_istore (loc' := [(7, .int fv), (6, .int (nI 0)), (5, .int c), (0, .ref 38), (1, .int (nI s)), (2, .int tv), (3, .int fv), (4, .int (nI m))]) dX7_pairs_74 (by decide) rfl ?_
        refine r_iload_n dX7_pairs_76 rfl ?_
        refine r_if_lt (tgt := 93) dX7_pairs_77 (by decide) (fun b77 => ?_) (fun b77 => ?_)
        · refine r_bipush (v := (-12)) dX7_pairs_93 rfl ?_
          refine r_ireturn dX7_pairs_95 rfl rfl ?_
          exact K
        · refine r_iload dX7_pairs_80 rfl ?_
          refine r_aload_n dX7_pairs_82 rfl ?_
          refine r_getR dX7_pairs_83 fl_X7_66 (ly_38 hE) rfl ?_
          refine r_iload_n dX7_pairs_86 rfl ?_
          refine r_ialdN dX7_pairs_87 (ly_54 hE) (by omega) (by decide) ?_
          refine r_rw (y := nI y) (by rw [r54]; exact h54) ?_
          refine r_iconst (v := 3) dX7_pairs_88 rfl ?_
          refine r_isub dX7_pairs_89 ?_
          refine r_icmp_le (tgt := 96) dX7_pairs_90 (by decide) (fun hqz => absurd hqz (prs_far hy b77 hx')) (fun _ => ?_)
          refine r_bipush (v := (-12)) dX7_pairs_93 rfl ?_
          refine r_ireturn dX7_pairs_95 rfl rfl ?_
          exact K
set_option maxRecDepth 100000 in
set_option maxHeartbeats 1000000 in
theorem op_pairs (hE : hM E) (hW : WfS S T n z) (sv tv fv mv : Int32) : OpOK E (d + 3) mm_X6_pairs mm_X7_pairs [.int sv, .int tv, .int fv, .int mv] S T n z := by
  have hEc := hE.c
  have hN := hW.2.2.2.2.1
  have hn := hN.1
  have h60 := hN.2.1
  by_cases hb : (∃ s, s < 4 ∧ sv = nI s) ∧ (∃ t, t < 3 ∧ tv = nI t) ∧ ∃ m, m < 6 ∧ mv = nI m
  · obtain ⟨⟨s, hs, rfl⟩, ⟨t, ht, rfl⟩, ⟨m, hm, rfl⟩⟩ := hb
    obtain ⟨-, y, hy, e54⟩ := hW.2.2.2.2.2.2.2 s hs
    by_cases m1 : S 53 s = -1
    · refine ⟨.int (-11), S, T, n, z, ⟨_, rfl⟩, hW, fun A L Ph hR hk => ?_, fun A L Ph hR hk => ?_⟩
      · have K := hk A L hR (fun _ _ => rfl)
        refine qC.enter (by decide) (Nat.le_of_ble_eq_true rfl) ?_
        refine r_iload_n dX6_pairs_0 rfl ?_
        refine r_iconst (v := 4) dX6_pairs_1 rfl ?_
        refine r_callS2 dX6_pairs_2 lk_X6_100 (Nat.le_of_ble_eq_true rfl) (win_t (lim := 4) rfl (by decide) hs ?_)
        refine r_if_eq (tgt := 26) dX6_pairs_5 (by decide) (fun hqz => absurd hqz (by decide)) (fun _ => ?_)
        refine r_iload_n dX6_pairs_8 rfl ?_
        refine r_iconst (v := 3) dX6_pairs_9 rfl ?_
        refine r_callS2 dX6_pairs_10 lk_X6_100 (Nat.le_of_ble_eq_true rfl) (win_t (lim := 3) rfl (by decide) ht ?_)
        refine r_if_eq (tgt := 26) dX6_pairs_13 (by decide) (fun hqz => absurd hqz (by decide)) (fun _ => ?_)
        refine r_iload dX6_pairs_16 rfl ?_
        refine r_bipush (v := 6) dX6_pairs_18 rfl ?_
        refine r_callS2 dX6_pairs_20 lk_X6_100 (Nat.le_of_ble_eq_true rfl) (win_t (lim := 6) rfl (by decide) hm ?_)
        refine r_if_ne (tgt := 29) dX6_pairs_23 (by decide) (fun _ => ?_) (fun hqz => absurd hqz (by decide))
        refine r_aload_n dX6_pairs_29 rfl ?_
        refine r_getR dX6_pairs_30 fl_X6_52 (ly_0 hEc) rfl ?_
        refine r_iload_n dX6_pairs_33 rfl ?_
        refine r_aaldN dX6_pairs_34 (ly_7 hEc) (show s < 4 by omega) (by decide) (ly_7r (by omega)) ?_
        refine r_astore (loc' := [(5, .ref (8 + s)), (0, .ref 0), (1, .int (nI s)), (2, .int (nI t)), (3, .int fv), (4, .int (nI m))]) dX6_pairs_35 (by decide) rfl ?_
        refine r_aload dX6_pairs_37 rfl ?_
        refine r_callV0 dX6_pairs_39 lk_X6_246 (ly_sh hEc hs) rfl (Nat.le_of_ble_eq_true rfl) (mis_t hEc hs ((hR.2.2.2.2.2 s hs).1.trans m1) ?_)
        refine r_if_ne (tgt := 57) dX6_pairs_42 (by decide) (fun _ => ?_) (fun hqz => absurd hqz (by decide))
        refine r_aload dX6_pairs_57 rfl ?_
        refine r_callV0 dX6_pairs_59 lk_X6_246 (ly_sh hEc hs) rfl (Nat.le_of_ble_eq_true rfl) (mis_t hEc hs ((hR.2.2.2.2.2 s hs).1.trans m1) ?_)
        refine r_if_eq (tgt := 68) dX6_pairs_62 (by decide) (fun hqz => absurd hqz (by decide)) (fun _ => ?_)
        refine r_bipush (v := (-11)) dX6_pairs_65 rfl ?_
        refine r_ireturn dX6_pairs_67 rfl rfl ?_
        exact K
      · have K := hk A L hR (fun _ _ => rfl)
        have r53 := hR.2.2.2.2.2.2.2.2.1
        refine qC.enter (by decide) (Nat.le_of_ble_eq_true rfl) ?_
        refine r_iload_n dX7_pairs_0 rfl ?_
        refine r_callS1 dX7_pairs_1 lk_X7_254 (Nat.le_of_ble_eq_true rfl) (iss_t hE hs ?_)
        refine r_if_eq (tgt := 26) dX7_pairs_4 (by decide) (fun hqz => absurd hqz (by decide)) (fun _ => ?_)
        refine r_iload_n dX7_pairs_7 rfl ?_
        refine r_iconst (v := 0) dX7_pairs_8 rfl ?_
        refine r_iconst (v := 2) dX7_pairs_9 rfl ?_
        refine r_callS3 dX7_pairs_10 lk_X7_78 (Nat.le_of_ble_eq_true rfl) (in_t (lim := 3) rfl rfl (by decide) ht ?_)
        refine r_if_eq (tgt := 26) dX7_pairs_13 (by decide) (fun hqz => absurd hqz (by decide)) (fun _ => ?_)
        refine r_iload dX7_pairs_16 rfl ?_
        refine r_iconst (v := 0) dX7_pairs_18 rfl ?_
        refine r_iconst (v := 5) dX7_pairs_19 rfl ?_
        refine r_callS3 dX7_pairs_20 lk_X7_78 (Nat.le_of_ble_eq_true rfl) (in_t (lim := 6) rfl rfl (by decide) hm ?_)
        refine r_if_ne (tgt := 29) dX7_pairs_23 (by decide) (fun _ => ?_) (fun hqz => absurd hqz (by decide))
        refine r_aload_n dX7_pairs_29 rfl ?_
        refine r_getR dX7_pairs_30 fl_X7_63 (ly_38 hE) rfl ?_
        refine r_iload_n dX7_pairs_33 rfl ?_
        refine r_ialdN dX7_pairs_34 (ly_53 hE) (by omega) (by decide) ?_
        refine r_rw (y := S 53 s) (by rw [r53]) ?_
        refine r_iconst (v := (-1)) dX7_pairs_35 rfl ?_
        refine r_icmp_ne (tgt := 42) dX7_pairs_36 (by decide) (fun hqz => absurd m1 hqz) (fun _ => ?_)
        refine r_bipush (v := (-11)) dX7_pairs_39 rfl ?_
        refine r_ireturn dX7_pairs_41 rfl rfl ?_
        exact K
    · by_cases m2 : S 53 s = nI t
      · obtain ⟨r, S', n', w', c', m'⟩ := prs_loop (d := d) (sv := nI s) (tv := nI t) (fv := fv) hE hs hy (show m ≤ 5 by omega) m 0 0 S n (by omega) hW e54 (Or.inl rfl)
        refine ⟨.int r, S', T, n', z, ⟨_, rfl⟩, w', fun A L Ph hR hk => ?_, fun A L Ph hR hk => ?_⟩
        · have K := c' A L Ph hR (fun A' a b => hk A' L a b)
          refine qC.enter (by decide) (Nat.le_of_ble_eq_true rfl) ?_
          refine r_iload_n dX6_pairs_0 rfl ?_
          refine r_iconst (v := 4) dX6_pairs_1 rfl ?_
          refine r_callS2 dX6_pairs_2 lk_X6_100 (Nat.le_of_ble_eq_true rfl) (win_t (lim := 4) rfl (by decide) hs ?_)
          refine r_if_eq (tgt := 26) dX6_pairs_5 (by decide) (fun hqz => absurd hqz (by decide)) (fun _ => ?_)
          refine r_iload_n dX6_pairs_8 rfl ?_
          refine r_iconst (v := 3) dX6_pairs_9 rfl ?_
          refine r_callS2 dX6_pairs_10 lk_X6_100 (Nat.le_of_ble_eq_true rfl) (win_t (lim := 3) rfl (by decide) ht ?_)
          refine r_if_eq (tgt := 26) dX6_pairs_13 (by decide) (fun hqz => absurd hqz (by decide)) (fun _ => ?_)
          refine r_iload dX6_pairs_16 rfl ?_
          refine r_bipush (v := 6) dX6_pairs_18 rfl ?_
          refine r_callS2 dX6_pairs_20 lk_X6_100 (Nat.le_of_ble_eq_true rfl) (win_t (lim := 6) rfl (by decide) hm ?_)
          refine r_if_ne (tgt := 29) dX6_pairs_23 (by decide) (fun _ => ?_) (fun hqz => absurd hqz (by decide))
          refine r_aload_n dX6_pairs_29 rfl ?_
          refine r_getR dX6_pairs_30 fl_X6_52 (ly_0 hEc) rfl ?_
          refine r_iload_n dX6_pairs_33 rfl ?_
          refine r_aaldN dX6_pairs_34 (ly_7 hEc) (show s < 4 by omega) (by decide) (ly_7r (by omega)) ?_
          refine r_astore (loc' := [(5, .ref (8 + s)), (0, .ref 0), (1, .int (nI s)), (2, .int (nI t)), (3, .int fv), (4, .int (nI m))]) dX6_pairs_35 (by decide) rfl ?_
          refine r_aload dX6_pairs_37 rfl ?_
          refine r_callV0 dX6_pairs_39 lk_X6_246 (ly_sh hEc hs) rfl (Nat.le_of_ble_eq_true rfl) (mis_f hEc hs (by rw [(hR.2.2.2.2.2 s hs).1]; exact m1) ?_)
          refine r_if_ne (tgt := 57) dX6_pairs_42 (by decide) (fun hqz => absurd (by decide) hqz) (fun _ => ?_)
          refine r_aload dX6_pairs_45 rfl ?_
          refine r_getI dX6_pairs_47 fl_X6_307 (ly_sh hEc hs) rfl ?_
          refine r_iload_n dX6_pairs_50 rfl ?_
          refine r_icmp_eq (tgt := 57) dX6_pairs_51 (by decide) (fun _ => ?_) (fun hqz => absurd ((hR.2.2.2.2.2 s hs).1.trans m2) hqz)
          refine r_aload dX6_pairs_57 rfl ?_
          refine r_callV0 dX6_pairs_59 lk_X6_246 (ly_sh hEc hs) rfl (Nat.le_of_ble_eq_true rfl) (mis_f hEc hs (by rw [(hR.2.2.2.2.2 s hs).1]; exact m1) ?_)
          refine r_if_eq (tgt := 68) dX6_pairs_62 (by decide) (fun _ => ?_) (fun hqz => absurd (by decide) hqz)
          refine r_iconst (v := 0) dX6_pairs_68 rfl ?_
          refine r_istore (loc' := [(6, .int 0), (5, .ref (8 + s)), (0, .ref 0), (1, .int (nI s)), (2, .int (nI t)), (3, .int fv), (4, .int (nI m))]) dX6_pairs_69 (by decide) rfl ?_
          refine r_iconst (v := 0) dX6_pairs_71 rfl ?_
          refine r_istore (loc' := [(7, .int 0), (6, .int 0), (5, .ref (8 + s)), (0, .ref 0), (1, .int (nI s)), (2, .int (nI t)), (3, .int fv), (4, .int (nI m))]) dX6_pairs_72 (by decide) rfl ?_
          refine qG.pick [0, 1, 2, 3, 4, 5, 6, 7] rfl ?_
          exact K
        · have K := m' A L Ph hR (fun A' a b => hk A' L a b)
          have r53 := hR.2.2.2.2.2.2.2.2.1
          refine qC.enter (by decide) (Nat.le_of_ble_eq_true rfl) ?_
          refine r_iload_n dX7_pairs_0 rfl ?_
          refine r_callS1 dX7_pairs_1 lk_X7_254 (Nat.le_of_ble_eq_true rfl) (iss_t hE hs ?_)
          refine r_if_eq (tgt := 26) dX7_pairs_4 (by decide) (fun hqz => absurd hqz (by decide)) (fun _ => ?_)
          refine r_iload_n dX7_pairs_7 rfl ?_
          refine r_iconst (v := 0) dX7_pairs_8 rfl ?_
          refine r_iconst (v := 2) dX7_pairs_9 rfl ?_
          refine r_callS3 dX7_pairs_10 lk_X7_78 (Nat.le_of_ble_eq_true rfl) (in_t (lim := 3) rfl rfl (by decide) ht ?_)
          refine r_if_eq (tgt := 26) dX7_pairs_13 (by decide) (fun hqz => absurd hqz (by decide)) (fun _ => ?_)
          refine r_iload dX7_pairs_16 rfl ?_
          refine r_iconst (v := 0) dX7_pairs_18 rfl ?_
          refine r_iconst (v := 5) dX7_pairs_19 rfl ?_
          refine r_callS3 dX7_pairs_20 lk_X7_78 (Nat.le_of_ble_eq_true rfl) (in_t (lim := 6) rfl rfl (by decide) hm ?_)
          refine r_if_ne (tgt := 29) dX7_pairs_23 (by decide) (fun _ => ?_) (fun hqz => absurd hqz (by decide))
          refine r_aload_n dX7_pairs_29 rfl ?_
          refine r_getR dX7_pairs_30 fl_X7_63 (ly_38 hE) rfl ?_
          refine r_iload_n dX7_pairs_33 rfl ?_
          refine r_ialdN dX7_pairs_34 (ly_53 hE) (by omega) (by decide) ?_
          refine r_rw (y := S 53 s) (by rw [r53]) ?_
          refine r_iconst (v := (-1)) dX7_pairs_35 rfl ?_
          refine r_icmp_ne (tgt := 42) dX7_pairs_36 (by decide) (fun _ => ?_) (fun hqz => absurd hqz m1)
          refine r_aload_n dX7_pairs_42 rfl ?_
          refine r_getR dX7_pairs_43 fl_X7_63 (ly_38 hE) rfl ?_
          refine r_iload_n dX7_pairs_46 rfl ?_
          refine r_ialdN dX7_pairs_47 (ly_53 hE) (by omega) (by decide) ?_
          refine r_rw (y := S 53 s) (by rw [r53]) ?_
          refine r_iload_n dX7_pairs_48 rfl ?_
          refine r_icmp_eq (tgt := 55) dX7_pairs_49 (by decide) (fun _ => ?_) (fun hqz => absurd m2 hqz)
          refine r_iconst (v := 0) dX7_pairs_55 rfl ?_
          refine r_istore (loc' := [(5, .int 0), (0, .ref 38), (1, .int (nI s)), (2, .int (nI t)), (3, .int fv), (4, .int (nI m))]) dX7_pairs_56 (by decide) rfl ?_
          refine r_iconst (v := 0) dX7_pairs_58 rfl ?_
          refine r_istore (loc' := [(6, .int 0), (5, .int 0), (0, .ref 38), (1, .int (nI s)), (2, .int (nI t)), (3, .int fv), (4, .int (nI m))]) dX7_pairs_59 (by decide) rfl ?_
          refine qG.pick [0, 1, 2, 3, 4, 5, 6] rfl ?_
          exact K
      · refine ⟨.int (-13), S, T, n, z, ⟨_, rfl⟩, hW, fun A L Ph hR hk => ?_, fun A L Ph hR hk => ?_⟩
        · have K := hk A L hR (fun _ _ => rfl)
          refine qC.enter (by decide) (Nat.le_of_ble_eq_true rfl) ?_
          refine r_iload_n dX6_pairs_0 rfl ?_
          refine r_iconst (v := 4) dX6_pairs_1 rfl ?_
          refine r_callS2 dX6_pairs_2 lk_X6_100 (Nat.le_of_ble_eq_true rfl) (win_t (lim := 4) rfl (by decide) hs ?_)
          refine r_if_eq (tgt := 26) dX6_pairs_5 (by decide) (fun hqz => absurd hqz (by decide)) (fun _ => ?_)
          refine r_iload_n dX6_pairs_8 rfl ?_
          refine r_iconst (v := 3) dX6_pairs_9 rfl ?_
          refine r_callS2 dX6_pairs_10 lk_X6_100 (Nat.le_of_ble_eq_true rfl) (win_t (lim := 3) rfl (by decide) ht ?_)
          refine r_if_eq (tgt := 26) dX6_pairs_13 (by decide) (fun hqz => absurd hqz (by decide)) (fun _ => ?_)
          refine r_iload dX6_pairs_16 rfl ?_
          refine r_bipush (v := 6) dX6_pairs_18 rfl ?_
          refine r_callS2 dX6_pairs_20 lk_X6_100 (Nat.le_of_ble_eq_true rfl) (win_t (lim := 6) rfl (by decide) hm ?_)
          refine r_if_ne (tgt := 29) dX6_pairs_23 (by decide) (fun _ => ?_) (fun hqz => absurd hqz (by decide))
          refine r_aload_n dX6_pairs_29 rfl ?_
          refine r_getR dX6_pairs_30 fl_X6_52 (ly_0 hEc) rfl ?_
          refine r_iload_n dX6_pairs_33 rfl ?_
          refine r_aaldN dX6_pairs_34 (ly_7 hEc) (show s < 4 by omega) (by decide) (ly_7r (by omega)) ?_
          refine r_astore (loc' := [(5, .ref (8 + s)), (0, .ref 0), (1, .int (nI s)), (2, .int (nI t)), (3, .int fv), (4, .int (nI m))]) dX6_pairs_35 (by decide) rfl ?_
          refine r_aload dX6_pairs_37 rfl ?_
          refine r_callV0 dX6_pairs_39 lk_X6_246 (ly_sh hEc hs) rfl (Nat.le_of_ble_eq_true rfl) (mis_f hEc hs (by rw [(hR.2.2.2.2.2 s hs).1]; exact m1) ?_)
          refine r_if_ne (tgt := 57) dX6_pairs_42 (by decide) (fun hqz => absurd (by decide) hqz) (fun _ => ?_)
          refine r_aload dX6_pairs_45 rfl ?_
          refine r_getI dX6_pairs_47 fl_X6_307 (ly_sh hEc hs) rfl ?_
          refine r_iload_n dX6_pairs_50 rfl ?_
          refine r_icmp_eq (tgt := 57) dX6_pairs_51 (by decide) (fun hqz => absurd hqz (by rw [(hR.2.2.2.2.2 s hs).1]; exact m2)) (fun _ => ?_)
          refine r_bipush (v := (-13)) dX6_pairs_54 rfl ?_
          refine r_ireturn dX6_pairs_56 rfl rfl ?_
          exact K
        · have K := hk A L hR (fun _ _ => rfl)
          have r53 := hR.2.2.2.2.2.2.2.2.1
          refine qC.enter (by decide) (Nat.le_of_ble_eq_true rfl) ?_
          refine r_iload_n dX7_pairs_0 rfl ?_
          refine r_callS1 dX7_pairs_1 lk_X7_254 (Nat.le_of_ble_eq_true rfl) (iss_t hE hs ?_)
          refine r_if_eq (tgt := 26) dX7_pairs_4 (by decide) (fun hqz => absurd hqz (by decide)) (fun _ => ?_)
          refine r_iload_n dX7_pairs_7 rfl ?_
          refine r_iconst (v := 0) dX7_pairs_8 rfl ?_
          refine r_iconst (v := 2) dX7_pairs_9 rfl ?_
          refine r_callS3 dX7_pairs_10 lk_X7_78 (Nat.le_of_ble_eq_true rfl) (in_t (lim := 3) rfl rfl (by decide) ht ?_)
          refine r_if_eq (tgt := 26) dX7_pairs_13 (by decide) (fun hqz => absurd hqz (by decide)) (fun _ => ?_)
          refine r_iload dX7_pairs_16 rfl ?_
          refine r_iconst (v := 0) dX7_pairs_18 rfl ?_
          refine r_iconst (v := 5) dX7_pairs_19 rfl ?_
          refine r_callS3 dX7_pairs_20 lk_X7_78 (Nat.le_of_ble_eq_true rfl) (in_t (lim := 6) rfl rfl (by decide) hm ?_)
          refine r_if_ne (tgt := 29) dX7_pairs_23 (by decide) (fun _ => ?_) (fun hqz => absurd hqz (by decide))
          refine r_aload_n dX7_pairs_29 rfl ?_
          refine r_getR dX7_pairs_30 fl_X7_63 (ly_38 hE) rfl ?_
          refine r_iload_n dX7_pairs_33 rfl ?_
          refine r_ialdN dX7_pairs_34 (ly_53 hE) (by omega) (by decide) ?_
          refine r_rw (y := S 53 s) (by rw [r53]) ?_
          refine r_iconst (v := (-1)) dX7_pairs_35 rfl ?_
          refine r_icmp_ne (tgt := 42) dX7_pairs_36 (by decide) (fun _ => ?_) (fun hqz => absurd hqz m1)
          refine r_aload_n dX7_pairs_42 rfl ?_
          refine r_getR dX7_pairs_43 fl_X7_63 (ly_38 hE) rfl ?_
          refine r_iload_n dX7_pairs_46 rfl ?_
          refine r_ialdN dX7_pairs_47 (ly_53 hE) (by omega) (by decide) ?_
          refine r_rw (y := S 53 s) (by rw [r53]) ?_
          refine r_iload_n dX7_pairs_48 rfl ?_
          refine r_icmp_eq (tgt := 55) dX7_pairs_49 (by decide) (fun hqz => absurd hqz m2) (fun _ => ?_)
          refine r_bipush (v := (-13)) dX7_pairs_52 rfl ?_
          refine r_ireturn dX7_pairs_54 rfl rfl ?_
          exact K
  · refine ⟨.int (-2), S, T, n, z, ⟨_, rfl⟩, hW, fun A L Ph hR hk => ?_, fun A L Ph hR hk => ?_⟩
    · have K := hk A L hR (fun _ _ => rfl)
      refine qC.enter (by decide) (Nat.le_of_ble_eq_true rfl) ?_
      refine r_iload_n dX6_pairs_0 rfl ?_
      refine r_iconst (v := 4) dX6_pairs_1 rfl ?_
      refine r_callS2 dX6_pairs_2 lk_X6_100 (Nat.le_of_ble_eq_true rfl) (sp_X6_within 4 rfl (by decide) (fun s hs es => ?_) (fun _ => ?_))
      · refine r_if_eq (tgt := 26) dX6_pairs_5 (by decide) (fun hqz => absurd hqz (by decide)) (fun _ => ?_)
        refine r_iload_n dX6_pairs_8 rfl ?_
        refine r_iconst (v := 3) dX6_pairs_9 rfl ?_
        refine r_callS2 dX6_pairs_10 lk_X6_100 (Nat.le_of_ble_eq_true rfl) (sp_X6_within 3 rfl (by decide) (fun t ht et => ?_) (fun _ => ?_))
        · refine r_if_eq (tgt := 26) dX6_pairs_13 (by decide) (fun hqz => absurd hqz (by decide)) (fun _ => ?_)
          refine r_iload dX6_pairs_16 rfl ?_
          refine r_bipush (v := 6) dX6_pairs_18 rfl ?_
          refine r_callS2 dX6_pairs_20 lk_X6_100 (Nat.le_of_ble_eq_true rfl) (win_f 6 rfl (by decide) (fun q hq eq => hb ⟨⟨s, hs, es⟩, ⟨t, ht, et⟩, ⟨q, hq, eq⟩⟩) ?_)
          refine r_if_ne (tgt := 29) dX6_pairs_23 (by decide) (fun hqz => absurd (by decide) hqz) (fun _ => ?_)
          refine r_bipush (v := (-2)) dX6_pairs_26 rfl ?_
          refine r_ireturn dX6_pairs_28 rfl rfl ?_
          exact K
        · refine r_if_eq (tgt := 26) dX6_pairs_13 (by decide) (fun _ => ?_) (fun hqz => absurd (by decide) hqz)
          refine r_bipush (v := (-2)) dX6_pairs_26 rfl ?_
          refine r_ireturn dX6_pairs_28 rfl rfl ?_
          exact K
      · refine r_if_eq (tgt := 26) dX6_pairs_5 (by decide) (fun _ => ?_) (fun hqz => absurd (by decide) hqz)
        refine r_bipush (v := (-2)) dX6_pairs_26 rfl ?_
        refine r_ireturn dX6_pairs_28 rfl rfl ?_
        exact K
    · have K := hk A L hR (fun _ _ => rfl)
      by_cases h1 : ∃ s, s < 4 ∧ sv = nI s
      · obtain ⟨s, hs, rfl⟩ := h1
        refine qC.enter (by decide) (Nat.le_of_ble_eq_true rfl) ?_
        refine r_iload_n dX7_pairs_0 rfl ?_
        refine r_callS1 dX7_pairs_1 lk_X7_254 (Nat.le_of_ble_eq_true rfl) (iss_t hE hs ?_)
        refine r_if_eq (tgt := 26) dX7_pairs_4 (by decide) (fun hqz => absurd hqz (by decide)) (fun _ => ?_)
        refine r_iload_n dX7_pairs_7 rfl ?_
        refine r_iconst (v := 0) dX7_pairs_8 rfl ?_
        refine r_iconst (v := 2) dX7_pairs_9 rfl ?_
        refine r_callS3 dX7_pairs_10 lk_X7_78 (Nat.le_of_ble_eq_true rfl) (sp_isIn0 3 rfl rfl (by decide) (fun t ht et => ?_) (fun _ => ?_))
        · refine r_if_eq (tgt := 26) dX7_pairs_13 (by decide) (fun hqz => absurd hqz (by decide)) (fun _ => ?_)
          refine r_iload dX7_pairs_16 rfl ?_
          refine r_iconst (v := 0) dX7_pairs_18 rfl ?_
          refine r_iconst (v := 5) dX7_pairs_19 rfl ?_
          refine r_callS3 dX7_pairs_20 lk_X7_78 (Nat.le_of_ble_eq_true rfl) (in_f 6 rfl rfl (by decide) (fun q hq eq => hb ⟨⟨s, hs, rfl⟩, ⟨t, ht, et⟩, ⟨q, hq, eq⟩⟩) ?_)
          refine r_if_ne (tgt := 29) dX7_pairs_23 (by decide) (fun hqz => absurd (by decide) hqz) (fun _ => ?_)
          refine r_bipush (v := (-2)) dX7_pairs_26 rfl ?_
          refine r_ireturn dX7_pairs_28 rfl rfl ?_
          exact K
        · refine r_if_eq (tgt := 26) dX7_pairs_13 (by decide) (fun _ => ?_) (fun hqz => absurd (by decide) hqz)
          refine r_bipush (v := (-2)) dX7_pairs_26 rfl ?_
          refine r_ireturn dX7_pairs_28 rfl rfl ?_
          exact K
      · skip
        refine qC.enter (by decide) (Nat.le_of_ble_eq_true rfl) ?_
        refine r_iload_n dX7_pairs_0 rfl ?_
        refine r_callS1 dX7_pairs_1 lk_X7_254 (Nat.le_of_ble_eq_true rfl) (iss_f hE (fun q hq eq => h1 ⟨q, hq, eq⟩) ?_)
        refine r_if_eq (tgt := 26) dX7_pairs_4 (by decide) (fun _ => ?_) (fun hqz => absurd (by decide) hqz)
        refine r_bipush (v := (-2)) dX7_pairs_26 rfl ?_
        refine r_ireturn dX7_pairs_28 rfl rfl ?_
        exact K
theorem CE.sh {A' : mA} {kd nr : Int32} (h : CE E A S T r kd nr) (hf : Fr xS A A') : CE E A' S T r kd nr := by
  obtain ⟨h1, h2, h3, h4, h5, h6, h7⟩ := h
  refine ⟨h1, ?_, h3, h4, h5, ?_, h7⟩
  · unfold RCt at *
    rw [hf 3 (by decide), hf 22 (by decide), hf 23 (by decide)]
    exact h2
  · unfold TS at *
    rw [hf 5 (by decide), hf 26 (by decide)]
    exact h6
theorem ME.s55 {kd nr v : Int32} {j : Nat} (h : ME E A S T r kd nr) : ME E (s2 A 55 j v) (s2 S 55 j v) T r kd nr := by
  obtain ⟨h1, h2, h3, h4, h5, h6⟩ := h
  refine ⟨h1, h2.sh (Fr.s2 (by decide)) (Fr.s2 (by decide)) ?_ ?_ ?_, h3, h4, ?_, ?_⟩
  · rw [s2_ne (by decide), s2_ne (by decide)]; exact h2.2.2.2.2.2.2.2.2.1
  · rw [s2_ne (by decide), s2_ne (by decide)]; exact h2.2.2.2.2.2.2.2.2.2.1
  · rw [s2_eq, s2_eq, h2.2.2.2.2.2.2.2.2.2.2.1]
  · obtain ⟨e, he⟩ := h5
    exact ⟨e, he.now (s2_ne (by decide)) (s2_ne (by decide))⟩
  · unfold MT at *
    rw [s2_ne (by decide), s2_ne (by decide)]
    exact h6
theorem EV.fr {S' S : mA} (h : Fr [53, 54, 55] S S') : EV S' S := ⟨h 42 (by decide), h 43 (by decide), by rw [h 39 (by decide)], by rw [h 39 (by decide)], by rw [h 39 (by decide)]⟩
theorem fr_one {S S' : mA} {k : Nat} (h : Fr [k] S S') : S' = va_up S k (S' k) := by
  funext q
  by_cases e : q = k
  · subst e; rw [va_up_eq]
  · rw [va_up_no e]; exact h q (by simp; exact e)
theorem c8_ok {j : Nat} (h : j ≤ 40) : (nI j).toInt8.toInt32 = nI j := by
  have : ∀ j : Fin 41, (nI j.val).toInt8.toInt32 = nI j.val := by decide
  exact this ⟨j, by omega⟩
set_option maxRecDepth 100000 in
set_option maxHeartbeats 1000000 in
theorem cfl_loop (hs : s < 4) {kd nr a0 sv pv : Int32} {y : Nat} (hy : y ≤ 40) {g : Nat → Int32} (hg : ∀ i, g i = farF S r kd nr (itF (bmF S r kd nr) i a0)) (h40 : ∀ i, ∃ j, j ≤ 40 ∧ g i = nI j) : ∀ (k i : Nat) (A : mA), i + k = y → CE E A S T r kd nr → A (8 + s) 1 = 0 → A (8 + s) 2 = nI y → (∀ j, j < i → A (34 + s) j = g j) → (∀ j, i ≤ j → j < 40 → A (34 + s) j = 0) → (∀ A', Fr [24, 26, 34 + s] A A' → (∀ j, j < y → A' (34 + s) j = g j) → (∀ j, y ≤ j → j < 40 → A' (34 + s) j = 0) → Ph (some (.int (nI y))) A' L) → qG E mm_X6_film (d + 5) 71 [(6, .int (nI i)), (5, .ref (8 + s)), (4, .int (itF (bmF S r kd nr) i a0)), (0, .ref 0), (1, .int sv), (2, .int pv), (3, .int (nI y))] [] A L Ph := by
  intro k
  induction k with
  | zero =>
    intro i A hi hc h1 h2 h3 h4 h
    have hE := hc.1
    have hi : i = y := by omega
    subst hi
    refine r_iload dX6_film_71 rfl ?_
    refine r_iload_n dX6_film_73 rfl ?_
    refine r_icmp_ge (tgt := 111) dX6_film_74 (by decide) (fun _ => ?_) (fun hqz => absurd (nI_le (Nat.le_refl _) (by omega)) hqz)
    refine r_iload_n dX6_film_111 rfl ?_
    refine r_ireturn dX6_film_112 rfl rfl ?_
    exact h A Fr.rf h3 h4
  | succ k ih =>
    intro i A hi hc h1 h2 h3 h4 h
    have hE := hc.1
    refine r_iload dX6_film_71 rfl ?_
    refine r_iload_n dX6_film_73 rfl ?_
    refine r_icmp_ge (tgt := 111) dX6_film_74 (by decide) (fun hqz => absurd hqz (nI_ge (show i < y by omega) (by omega))) (fun _ => ?_)
    refine r_aload dX6_film_77 rfl ?_
    refine r_iload dX6_film_79 rfl ?_
    refine r_aload_n dX6_film_81 rfl ?_
    refine r_getR dX6_film_82 fl_X6_38 (ly_0 hE) rfl ?_
    refine r_iload dX6_film_85 rfl ?_
    refine r_callV1 dX6_film_87 lk_X6_138 (ly_5 hE) rfl (Nat.le_of_ble_eq_true rfl) (sp_X4_far hc (fun A1 f1 => ?_))
    have q8 : A1 (8 + s) = A (8 + s) := f1.1 _ (by simp; omega)
    have q34 : A1 (34 + s) = A (34 + s) := f1.1 _ (by simp; omega)
    have c1 : cutF (A1 (8 + s) 1) (farF S r kd nr (itF (bmF S r kd nr) i a0)) = g i := by
      obtain ⟨j, hj, e⟩ := h40 i
      rw [q8, h1, ← hg, e]
      exact (if_pos rfl).trans (c8_ok hj)
    refine r_callV2 dX6_film_90 lk_X6_291 (ly_sh hE hs) rfl (Nat.le_of_ble_eq_true rfl) (put_ok hE hs hy (by rw [q8]; exact h2) (show i < y by omega) ?_)
    rw [c1]
    refine r_pop dX6_film_93 rfl ?_
    refine r_aload_n dX6_film_94 rfl ?_
    refine r_getR dX6_film_95 fl_X6_38 (ly_0 hE) rfl ?_
    refine r_iload dX6_film_98 rfl ?_
    refine r_callV1 dX6_film_100 lk_X6_159 (ly_5 hE) rfl (Nat.le_of_ble_eq_true rfl) (sp_X4_cooled ((hc.fr f1).sh (Fr.s2 (xS_34 hs))) (fun A2 f2 => ?_))
    refine r_rw (y := itF (bmF S r kd nr) (i + 1) a0) (itF_succ _ _ _).symm ?_
    refine r_topi (fun v103 e103 => ?_)
    refine r_istore (loc' := [(4, .int v103), (6, .int (nI i)), (5, .ref (8 + s)), (0, .ref 0), (1, .int sv), (2, .int pv), (3, .int (nI y))]) dX6_film_103 (by decide) rfl ?_
    refine r_iinc (v := (nI (i + 1))) (loc' := [(6, .int (nI (i + 1))), (4, .int v103), (5, .ref (8 + s)), (0, .ref 0), (1, .int sv), (2, .int pv), (3, .int (nI y))]) dX6_film_105 rfl ((nI_succ _).symm) (by decide) rfl ?_
    refine r_goto (tgt := 71) dX6_film_108 (by decide) ?_
    refine qG.pick [0, 2, 1, 3, 4, 5, 6] rfl ?_
    have z8 : A2 (8 + s) = A (8 + s) := (f2.1 _ (by simp; omega)).trans ((s2_ne (by omega)).trans q8)
    have z34 : A2 (34 + s) = upd (A (34 + s)) i (g i) := (f2.1 _ (by simp; omega)).trans (by rw [s2_eq, q34])
    subst e103
    refine ih (i + 1) A2 (by omega) (((hc.fr f1).sh (Fr.s2 (xS_34 hs))).fr f2) (by rw [z8]; exact h1) (by rw [z8]; exact h2) (by rw [z34]; exact cp_step h3 rfl) (fun j a b => by rw [z34, u_no (by omega)]; exact h4 j (by omega) b) (fun A3 f3 g1 g2 => h A3 (Fr.tr (Fr.tr (f1.1.mo (by simp)) (Fr.tr (Fr.s2 (by simp)) (f2.1.mo (by simp)))) f3) g1 g2)
set_option maxRecDepth 100000 in
set_option maxHeartbeats 1000000 in
theorem mfl_loop (hs : s < 4) {kd nr a0 pv : Int32} {S1 : mA} {F B : Int32 → Int32} {y : Nat} (hy : y ≤ 40) {g c0 : Nat → Int32} (hg : ∀ i, g i = F (itF B i a0)) : ∀ (k i : Nat) (A S : mA), i + k = y → ME E A S T r kd nr → (∀ a, farF S r kd nr a = F a) → (∀ a, bmF S r kd nr a = B a) → Fr [55] S1 S → S 55 = fb_put c0 g (40 * s) i → (∀ A', RM A' (va_up S1 55 (fb_put c0 g (40 * s) y)) T → (∀ k, k < 38 → A' k = A k) → Ph (some (.int (nI y))) A' L) → qG E mm_X7_film (d + 5) 51 [(5, .int (nI i)), (4, .int (itF B i a0)), (0, .ref 38), (1, .int (nI s)), (2, .int pv), (3, .int (nI y))] [] A L Ph := by
  intro k
  induction k with
  | zero =>
    intro i A S hi hm hF hB hf h55 h
    have hE := hm.1
    have hi : i = y := by omega
    subst hi
    have eS := fr_one hf
    rw [h55] at eS
    refine r_iload dX7_film_51 rfl ?_
    refine r_iload_n dX7_film_53 rfl ?_
    refine r_icmp_ge (tgt := 89) dX7_film_54 (by decide) (fun _ => ?_) (fun hqz => absurd (nI_le (Nat.le_refl _) (by omega)) hqz)
    refine r_iload_n dX7_film_89 rfl ?_
    refine r_ireturn dX7_film_90 rfl rfl ?_
    exact h A (by rw [← eS]; exact hm.rm) (fun _ _ => rfl)
  | succ k ih =>
    intro i A S hi hm hF hB hf h55 h
    have hE := hm.1
    have ev : EV (s2 S 55 (40 * s + i) (g i)) S := EV.fr (Fr.s2 (by decide))
    refine r_iload dX7_film_51 rfl ?_
    refine r_iload_n dX7_film_53 rfl ?_
    refine r_icmp_ge (tgt := 89) dX7_film_54 (by decide) (fun hqz => absurd hqz (nI_ge (show i < y by omega) (by omega))) (fun _ => ?_)
    refine r_aload_n dX7_film_57 rfl ?_
    refine r_getR dX7_film_58 fl_X7_69 (ly_38 hE) rfl ?_
    refine r_bipush (v := 40) dX7_film_61 rfl ?_
    refine r_iload_n dX7_film_63 rfl ?_
    refine r_imul dX7_film_64 ?_
    refine r_iload dX7_film_65 rfl ?_
    refine r_iadd dX7_film_67 ?_
    refine r_rw (y := nI (40 * s + i)) (show nI 40 * nI s + nI i = _ by rw [pk_mul, nI_add]) ?_
    refine r_aload_n dX7_film_68 rfl ?_
    refine r_iload dX7_film_69 rfl ?_
    refine r_callV1 dX7_film_71 lk_X7_113 (ly_38 hE) rfl (Nat.le_of_ble_eq_true rfl) (sp_X7_far hm (fun A1 f1 => ?_))
    refine r_rw (y := g i) ((hF _).trans (hg i).symm) ?_
    refine r_iastN dX7_film_74 (ly_55 hE) (by omega) (by decide) ?_
    refine r_aload_n dX7_film_75 rfl ?_
    refine r_iload dX7_film_76 rfl ?_
    refine r_callV1 dX7_film_78 lk_X7_215 (ly_38 hE) rfl (Nat.le_of_ble_eq_true rfl) (sp_X7_behindMinute (hm.f46 f1).s55 (fun A2 f2 => ?_))
    refine r_rw (y := itF B (i + 1) a0) ((bmF_ev ev r kd nr _).trans ((hB _).trans (itF_succ _ _ _).symm)) ?_
    refine r_topi (fun v81 e81 => ?_)
    refine r_istore (loc' := [(4, .int v81), (5, .int (nI i)), (0, .ref 38), (1, .int (nI s)), (2, .int pv), (3, .int (nI y))]) dX7_film_81 (by decide) rfl ?_
    refine r_iinc (v := (nI (i + 1))) (loc' := [(5, .int (nI (i + 1))), (4, .int v81), (0, .ref 38), (1, .int (nI s)), (2, .int pv), (3, .int (nI y))]) dX7_film_83 rfl ((nI_succ _).symm) (by decide) rfl ?_
    refine r_goto (tgt := 51) dX7_film_86 (by decide) ?_
    refine qG.pick [0, 1, 2, 3, 4, 5] rfl ?_
    subst e81
    refine ih (i + 1) A2 _ (by omega) ((hm.f46 f1).s55.f46 f2) (fun a => (farF_ev ev r kd nr a).trans (hF a)) (fun a => (bmF_ev ev r kd nr a).trans (hB a)) (hf.tr (Fr.s2 (by decide))) (by rw [s2_eq, h55, fb_put_succ]) (fun A3 R3 l3 => h A3 R3 (lo2 (lo2 (fm46 f1).lo (Fr.lo (Fr.s2 (X := [55]) (by decide)) (by decide))) (lo2 (fm46 f2).lo l3)))
set_option maxRecDepth 100000 in
set_option maxHeartbeats 1000000 in
theorem mo_sheet (hE : hM E) (hs : s < 4) {y : Nat} (hy : y ≤ 40) (hR : RM A S T) (h : ∀ A', RM A' (shS S s 0 y) T → (∀ k, k < 38 → A' k = A k) → Ph (some (.int 1)) A' L) : qC E mm_X7_sheet (d + 3) [.ref 38, .int (nI s), .int 0, .int (nI y)] A L Ph := by
  obtain ⟨-, -, -, -, -, -, -, -, r53, r54, r55, -⟩ := id hR
  have fr : Fr [53, 54, 55, 56] A (va_up (s2 (s2 A 53 s 0) 54 s (nI y)) 55 (fb_put (A 55) (fun _ => 0) (40 * s) 40)) := (Fr.s2 (by decide)).tr ((Fr.s2 (by decide)).tr (Fr.up (by decide)))
  have K := h _ (hR.sh shS_fr fr (by rw [va_up_no (by decide), s2_ne (by decide), s2_eq, shS_53, r53]) (by rw [va_up_no (by decide), s2_eq, s2_ne (by decide), shS_54, r54]) (by rw [va_up_eq, shS_55, r55])) (Fr.lo fr (by decide))
  refine qC.enter (by decide) (Nat.le_of_ble_eq_true rfl) ?_
  refine r_iload_n dX7_sheet_0 rfl ?_
  refine r_callS1 dX7_sheet_1 lk_X7_254 (Nat.le_of_ble_eq_true rfl) (iss_t hE hs ?_)
  refine r_if_eq (tgt := 27) dX7_sheet_4 (by decide) (fun hqz => absurd hqz (by decide)) (fun _ => ?_)
  refine r_iload_n dX7_sheet_7 rfl ?_
  refine r_iconst (v := (-1)) dX7_sheet_8 rfl ?_
  refine r_iconst (v := 2) dX7_sheet_9 rfl ?_
  refine r_callS3 dX7_sheet_10 lk_X7_78 (Nat.le_of_ble_eq_true rfl) (sp_X7_isIn (fun _ _ => ?_) (fun q => absurd q (by decide)))
  refine r_if_eq (tgt := 27) dX7_sheet_13 (by decide) (fun hqz => absurd hqz (by decide)) (fun _ => ?_)
  refine r_iload_n dX7_sheet_16 rfl ?_
  refine r_iconst (v := (-1)) dX7_sheet_17 rfl ?_
  refine r_icmp_eq (tgt := 30) dX7_sheet_18 (by decide) (fun hqz => absurd hqz (by decide)) (fun _ => ?_)
  refine r_iload_n dX7_sheet_21 rfl ?_
  refine r_bipush (v := 40) dX7_sheet_22 rfl ?_
  refine r_icmp_le (tgt := 30) dX7_sheet_24 (by decide) (fun _ => ?_) (fun hqz => absurd (nI_le (show y ≤ 40 from hy) (by decide)) hqz)
  refine r_iload_n dX7_sheet_30 rfl ?_
  refine r_iconst (v := (-1)) dX7_sheet_31 rfl ?_
  refine r_icmp_eq (tgt := 42) dX7_sheet_32 (by decide) (fun hqz => absurd hqz (by decide)) (fun _ => ?_)
  refine r_iload_n dX7_sheet_35 rfl ?_
  refine r_if_ge (tgt := 42) dX7_sheet_36 (by decide) (fun _ => ?_) (fun hqz => absurd (nI_pos' (by omega)) hqz)
  refine r_aload_n dX7_sheet_42 rfl ?_
  refine r_getR dX7_sheet_43 fl_X7_63 (ly_38 hE) rfl ?_
  refine r_iload_n dX7_sheet_46 rfl ?_
  refine r_iload_n dX7_sheet_47 rfl ?_
  refine r_iastN dX7_sheet_48 (ly_53 hE) (by omega) (by decide) ?_
  refine r_aload_n dX7_sheet_49 rfl ?_
  refine r_getR dX7_sheet_50 fl_X7_66 (ly_38 hE) rfl ?_
  refine r_iload_n dX7_sheet_53 rfl ?_
  refine r_iload_n dX7_sheet_54 rfl ?_
  refine r_iconst (v := (-1)) dX7_sheet_55 rfl ?_
  refine r_icmp_ne (tgt := 63) dX7_sheet_56 (by decide) (fun _ => ?_) (fun hqz => absurd hqz (by decide))
  refine r_iload_n dX7_sheet_63 rfl ?_
  refine r_iastN dX7_sheet_64 (ly_54 hE) (by omega) (by decide) ?_
  refine r_iconst (v := 0) dX7_sheet_65 rfl ?_
  refine r_istore (loc' := [(4, .int 0), (0, .ref 38), (1, .int (nI s)), (2, .int 0), (3, .int (nI y))]) dX7_sheet_66 (by decide) rfl ?_
  have J := zero_loop (d := d + 3) (A := s2 (s2 A 53 s 0) 54 s (nI y)) (L := L) (Ph := Ph) (t := 0) (u := nI y) hE hs K 40 0 rfl
  rw [fb_put_0, up_self] at J
  exact J
set_option maxRecDepth 100000 in
set_option maxHeartbeats 1000000 in
theorem op_film (hE : hM E) (hW : WfS S T n z) (sv pv yv : Int32) : OpOK E (d + 5) mm_X6_film mm_X7_film [.int sv, .int pv, .int yv] S T n z := by
  have hEc := hE.c
  have hN := hW.2.2.2.2.1
  have hn := hN.1
  have h60 := hN.2.1
  by_cases hb : (∃ s, s < 4 ∧ sv = nI s) ∧ (∃ p, p < n ∧ pv = nI p) ∧ ∃ y, y < 41 ∧ yv = nI y
  · obtain ⟨⟨s, hs, rfl⟩, ⟨p, hp, rfl⟩, ⟨y, hy0, rfl⟩⟩ := hb
    have hy : y ≤ 40 := by omega
    obtain ⟨g, hg⟩ : ∃ g : Nat → Int32, ∀ i, g i = farP S p (itF (bmP S p) i (anP S p)) := ⟨_, fun _ => rfl⟩
    have h40 : ∀ i, ∃ j, j ≤ 40 ∧ g i = nI j := fun i => by rw [hg]; exact far_ok hW hp _
    have hW1 : WfS (shS S s 0 y) T n z := shS_wf hW (Or.inr ⟨0, by decide, rfl⟩) hy
    have e39 : shS S s 0 y 39 = S 39 := shS_fr 39 (by decide)
    have ev : EV (shS S s 0 y) S := EV.fr shS_fr
    have eF : ∀ a, farF (shS S s 0 y) (rF S) (kdP S p) (nrP S p) a = farP S p a := fun a => farF_ev ev _ _ _ a
    have eB : ∀ a, bmF (shS S s 0 y) (rF S) (kdP S p) (nrP S p) a = bmP S p a := fun a => bmF_ev ev _ _ _ a
    have er : rF (shS S s 0 y) = rF S := by unfold rF; rw [e39]
    have ek : kdP (shS S s 0 y) p = kdP S p := by unfold kdP; rw [e39]
    have en : nrP (shS S s 0 y) p = nrP S p := by unfold nrP; rw [e39]
    have ea : anP (shS S s 0 y) p = anP S p := by unfold anP; rw [e39]
    refine ⟨.int (nI y), va_up (shS S s 0 y) 55 (fb_put (shS S s 0 y 55) g (40 * s) y), T, n, z, ⟨_, rfl⟩, hW1.sh (Fr.up (by decide)) (fun q hq => by rw [va_up_no (by decide), va_up_no (by decide)]; exact hW1.2.2.2.2.2.2.2 q hq), fun A L Ph hR hk => ?_, fun A L Ph hR hk => ?_⟩
    · skip
      refine qC.enter (by decide) (Nat.le_of_ble_eq_true rfl) ?_
      refine r_iload_n dX6_film_0 rfl ?_
      refine r_iconst (v := 4) dX6_film_1 rfl ?_
      refine r_callS2 dX6_film_2 lk_X6_100 (Nat.le_of_ble_eq_true rfl) (win_t (lim := 4) rfl (by decide) hs ?_)
      refine r_if_eq (tgt := 28) dX6_film_5 (by decide) (fun hqz => absurd hqz (by decide)) (fun _ => ?_)
      refine r_aload_n dX6_film_8 rfl ?_
      refine r_getR dX6_film_9 fl_X6_10 (ly_0 hEc) rfl ?_
      refine r_iload_n dX6_film_12 rfl ?_
      refine r_callV1 dX6_film_13 lk_X6_125 (ly_1 hEc) rfl (Nat.le_of_ble_eq_true rfl) (has_t hEc hn (hR.1.2.2.1.trans h60) hp ?_)
      refine r_if_eq (tgt := 28) dX6_film_16 (by decide) (fun hqz => absurd hqz (by decide)) (fun _ => ?_)
      refine r_iload_n dX6_film_19 rfl ?_
      refine r_bipush (v := 41) dX6_film_20 rfl ?_
      refine r_callS2 dX6_film_22 lk_X6_100 (Nat.le_of_ble_eq_true rfl) (win_t (lim := 41) rfl (by decide) hy0 ?_)
      refine r_if_ne (tgt := 31) dX6_film_25 (by decide) (fun _ => ?_) (fun hqz => absurd hqz (by decide))
      refine r_aload_n dX6_film_31 rfl ?_
      refine r_getR dX6_film_32 fl_X6_38 (ly_0 hEc) rfl ?_
      refine r_aload_n dX6_film_35 rfl ?_
      refine r_getR dX6_film_36 fl_X6_10 (ly_0 hEc) rfl ?_
      refine r_iload_n dX6_film_39 rfl ?_
      refine r_callV2 dX6_film_40 lk_X6_128 (ly_5 hEc) rfl (Nat.le_of_ble_eq_true rfl) (co_of hEc hW hR hp (fun A1 f1 hc hR1 => ?_))
      refine r_aload_n dX6_film_43 rfl ?_
      refine r_getR dX6_film_44 fl_X6_10 (ly_0 hEc) rfl ?_
      refine r_iload_n dX6_film_47 rfl ?_
      refine r_callV1 dX6_film_48 lk_X6_132 (ly_1 hEc) rfl (Nat.le_of_ble_eq_true rfl) (co_an hEc hW hR1 hp ?_)
      refine r_topi (fun v51 e51 => ?_)
      refine r_istore (loc' := [(4, .int v51), (0, .ref 0), (1, .int (nI s)), (2, .int (nI p)), (3, .int (nI y))]) dX6_film_51 (by decide) rfl ?_
      refine r_aload_n dX6_film_53 rfl ?_
      refine r_getR dX6_film_54 fl_X6_52 (ly_0 hEc) rfl ?_
      refine r_iload_n dX6_film_57 rfl ?_
      refine r_aaldN dX6_film_58 (ly_7 hEc) (show s < 4 by omega) (by decide) (ly_7r (by omega)) ?_
      refine r_astore (loc' := [(5, .ref (8 + s)), (4, .int v51), (0, .ref 0), (1, .int (nI s)), (2, .int (nI p)), (3, .int (nI y))]) dX6_film_59 (by decide) rfl ?_
      refine r_aload dX6_film_61 rfl ?_
      refine r_iconst (v := 0) dX6_film_63 rfl ?_
      refine r_iload_n dX6_film_64 rfl ?_
      refine r_callV2 dX6_film_65 lk_X6_288 (ly_sh hEc hs) rfl (Nat.le_of_ble_eq_true rfl) (bcm_ok hEc hs hy (fun A2 f2 c1 c2 c3 => ?_))
      refine r_iconst (v := 0) dX6_film_68 rfl ?_
      refine r_istore (loc' := [(6, .int 0), (5, .ref (8 + s)), (4, .int v51), (0, .ref 0), (1, .int (nI s)), (2, .int (nI p)), (3, .int (nI y))]) dX6_film_69 (by decide) rfl ?_
      subst e51
      refine cfl_loop hs hy hg h40 y 0 A2 (by omega) (hc.sh (f2.mo (by simp; omega))) c1 c2 (fun j hj => absurd hj (by omega)) (fun j _ hj => c3 j hj) (fun A3 f3 g1 g2 => hk A3 L ?_ (hi2 (hi2 (f526 f1) (Fr.hi f2 (by simp; omega))) (Fr.hi f3 (by simp; omega))))
      have R2 := shS_rc hs hR1 f2 c1 c2 c3
      have f3t : Fr xC A2 (va_up A3 (34 + s) (A2 (34 + s))) := fun k hk => by
          by_cases e : k = 34 + s
          · subst e; rw [va_up_eq]
          · rw [va_up_no e]; exact f3 k (by simp at hk ⊢; omega)
      refine (R2.fr f3t).sh (Fr.up (by decide)) (A' := A3) (fun k hk => by exact (va_up_no (fun e => hk (by rw [e]; exact xS_34 hs))).symm) (fun q hq => ?_)
      have f8 : A3 (8 + q) = A2 (8 + q) := f3 _ (by simp; omega)
      rw [f8, va_up_no (show (53 : Nat) ≠ 55 by decide), va_up_no (show (54 : Nat) ≠ 55 by decide), va_up_eq]
      obtain ⟨b1, b2, b3⟩ := R2.2.2.2.2.2 q hq
      refine ⟨b1, b2, fun j hj => ?_⟩
      by_cases e : q = s
      · subst e
        by_cases c : j < y
        · rw [g1 j c, fb_put_in (by omega) (by omega)]; congr 1; omega
        · rw [g2 j (by omega) hj, fb_put_out (by omega), ← b3 j hj, c3 j hj]
      · rw [f3 (34 + q) (by simp; omega), fb_put_out (by omega)]
        exact b3 j hj
    · skip
      refine qC.enter (by decide) (Nat.le_of_ble_eq_true rfl) ?_
      refine r_iload_n dX7_film_0 rfl ?_
      refine r_callS1 dX7_film_1 lk_X7_254 (Nat.le_of_ble_eq_true rfl) (iss_t hE hs ?_)
      refine r_if_eq (tgt := 25) dX7_film_4 (by decide) (fun hqz => absurd hqz (by decide)) (fun _ => ?_)
      refine r_aload_n dX7_film_7 rfl ?_
      refine r_iload_n dX7_film_8 rfl ?_
      refine r_callV1 dX7_film_9 lk_X7_82 (ly_38 hE) rfl (Nat.le_of_ble_eq_true rfl) (isP_t hE hn (by rw [hR.1]; exact h60) hp ?_)
      refine r_if_eq (tgt := 25) dX7_film_12 (by decide) (fun hqz => absurd hqz (by decide)) (fun _ => ?_)
      refine r_iload_n dX7_film_15 rfl ?_
      refine r_iconst (v := 0) dX7_film_16 rfl ?_
      refine r_bipush (v := 40) dX7_film_17 rfl ?_
      refine r_callS3 dX7_film_19 lk_X7_78 (Nat.le_of_ble_eq_true rfl) (in_t (lim := 41) rfl rfl (by decide) hy0 ?_)
      refine r_if_ne (tgt := 28) dX7_film_22 (by decide) (fun _ => ?_) (fun hqz => absurd hqz (by decide))
      refine r_aload_n dX7_film_28 rfl ?_
      refine r_iload_n dX7_film_29 rfl ?_
      refine r_iconst (v := 0) dX7_film_30 rfl ?_
      refine r_iload_n dX7_film_31 rfl ?_
      refine r_callV3 dX7_film_32 lk_X7_271 (ly_38 hE) rfl (Nat.le_of_ble_eq_true rfl) (mo_sheet hE hs hy hR (fun A1 R1 l1 => ?_))
      refine r_pop dX7_film_35 rfl ?_
      refine r_aload_n dX7_film_36 rfl ?_
      refine r_iload_n dX7_film_37 rfl ?_
      refine r_callV1 dX7_film_38 lk_X7_97 (ly_38 hE) rfl (Nat.le_of_ble_eq_true rfl) (mo_take hE hW1 R1 hp (fun A2 f2 fm hm => ?_))
      refine r_aload_n dX7_film_41 rfl ?_
      refine r_iload_n dX7_film_42 rfl ?_
      refine r_callV1 dX7_film_43 lk_X7_101 (ly_38 hE) rfl (Nat.le_of_ble_eq_true rfl) (mo_an hE hW1 hm.rm hp ?_)
      refine r_topi (fun v46 e46 => ?_)
      refine r_istore (loc' := [(4, .int v46), (0, .ref 38), (1, .int (nI s)), (2, .int (nI p)), (3, .int (nI y))]) dX7_film_46 (by decide) rfl ?_
      refine r_iconst (v := 0) dX7_film_48 rfl ?_
      refine r_istore (loc' := [(5, .int 0), (4, .int v46), (0, .ref 38), (1, .int (nI s)), (2, .int (nI p)), (3, .int (nI y))]) dX7_film_49 (by decide) rfl ?_
      rw [er, ek, en] at hm
      rw [ea] at e46
      subst e46
      exact mfl_loop hs hy hg y 0 A2 _ (by omega) hm eF eB Fr.rf (by rw [fb_put_0]) (fun A3 R3 l3 => hk A3 L R3 (lo2 (lo2 l1 fm.lo) l3))
  · refine ⟨.int (-2), S, T, n, z, ⟨_, rfl⟩, hW, fun A L Ph hR hk => ?_, fun A L Ph hR hk => ?_⟩
    · have K := hk A L hR (fun _ _ => rfl)
      refine qC.enter (by decide) (Nat.le_of_ble_eq_true rfl) ?_
      refine r_iload_n dX6_film_0 rfl ?_
      refine r_iconst (v := 4) dX6_film_1 rfl ?_
      refine r_callS2 dX6_film_2 lk_X6_100 (Nat.le_of_ble_eq_true rfl) (sp_X6_within 4 rfl (by decide) (fun s hs es => ?_) (fun _ => ?_))
      · refine r_if_eq (tgt := 28) dX6_film_5 (by decide) (fun hqz => absurd hqz (by decide)) (fun _ => ?_)
        refine r_aload_n dX6_film_8 rfl ?_
        refine r_getR dX6_film_9 fl_X6_10 (ly_0 hEc) rfl ?_
        refine r_iload_n dX6_film_12 rfl ?_
        refine r_callV1 dX6_film_13 lk_X6_125 (ly_1 hEc) rfl (Nat.le_of_ble_eq_true rfl) (sp_X2_has hEc n hn (hR.1.2.2.1.trans h60) (fun p hp ep => ?_) (fun _ => ?_))
        · refine r_if_eq (tgt := 28) dX6_film_16 (by decide) (fun hqz => absurd hqz (by decide)) (fun _ => ?_)
          refine r_iload_n dX6_film_19 rfl ?_
          refine r_bipush (v := 41) dX6_film_20 rfl ?_
          refine r_callS2 dX6_film_22 lk_X6_100 (Nat.le_of_ble_eq_true rfl) (win_f 41 rfl (by decide) (fun y hy ey => hb ⟨⟨s, hs, es⟩, ⟨p, hp, ep⟩, ⟨y, hy, ey⟩⟩) ?_)
          refine r_if_ne (tgt := 31) dX6_film_25 (by decide) (fun hqz => absurd (by decide) hqz) (fun _ => ?_)
          refine r_bipush (v := (-2)) dX6_film_28 rfl ?_
          refine r_ireturn dX6_film_30 rfl rfl ?_
          exact K
        · refine r_if_eq (tgt := 28) dX6_film_16 (by decide) (fun _ => ?_) (fun hqz => absurd (by decide) hqz)
          refine r_bipush (v := (-2)) dX6_film_28 rfl ?_
          refine r_ireturn dX6_film_30 rfl rfl ?_
          exact K
      · refine r_if_eq (tgt := 28) dX6_film_5 (by decide) (fun _ => ?_) (fun hqz => absurd (by decide) hqz)
        refine r_bipush (v := (-2)) dX6_film_28 rfl ?_
        refine r_ireturn dX6_film_30 rfl rfl ?_
        exact K
    · have K := hk A L hR (fun _ _ => rfl)
      by_cases h1 : ∃ s, s < 4 ∧ sv = nI s
      · obtain ⟨s, hs, rfl⟩ := h1
        refine qC.enter (by decide) (Nat.le_of_ble_eq_true rfl) ?_
        refine r_iload_n dX7_film_0 rfl ?_
        refine r_callS1 dX7_film_1 lk_X7_254 (Nat.le_of_ble_eq_true rfl) (iss_t hE hs ?_)
        refine r_if_eq (tgt := 25) dX7_film_4 (by decide) (fun hqz => absurd hqz (by decide)) (fun _ => ?_)
        refine r_aload_n dX7_film_7 rfl ?_
        refine r_iload_n dX7_film_8 rfl ?_
        refine r_callV1 dX7_film_9 lk_X7_82 (ly_38 hE) rfl (Nat.le_of_ble_eq_true rfl) (sp_X7_isPair hE n hn (by rw [hR.1]; exact h60) (fun p hp ep => ?_) (fun _ => ?_))
        · refine r_if_eq (tgt := 25) dX7_film_12 (by decide) (fun hqz => absurd hqz (by decide)) (fun _ => ?_)
          refine r_iload_n dX7_film_15 rfl ?_
          refine r_iconst (v := 0) dX7_film_16 rfl ?_
          refine r_bipush (v := 40) dX7_film_17 rfl ?_
          refine r_callS3 dX7_film_19 lk_X7_78 (Nat.le_of_ble_eq_true rfl) (in_f 41 rfl rfl (by decide) (fun q hq eq => hb ⟨⟨s, hs, rfl⟩, ⟨p, hp, ep⟩, ⟨q, hq, eq⟩⟩) ?_)
          refine r_if_ne (tgt := 28) dX7_film_22 (by decide) (fun hqz => absurd (by decide) hqz) (fun _ => ?_)
          refine r_bipush (v := (-2)) dX7_film_25 rfl ?_
          refine r_ireturn dX7_film_27 rfl rfl ?_
          exact K
        · refine r_if_eq (tgt := 25) dX7_film_12 (by decide) (fun _ => ?_) (fun hqz => absurd (by decide) hqz)
          refine r_bipush (v := (-2)) dX7_film_25 rfl ?_
          refine r_ireturn dX7_film_27 rfl rfl ?_
          exact K
      · skip
        refine qC.enter (by decide) (Nat.le_of_ble_eq_true rfl) ?_
        refine r_iload_n dX7_film_0 rfl ?_
        refine r_callS1 dX7_film_1 lk_X7_254 (Nat.le_of_ble_eq_true rfl) (iss_f hE (fun q hq eq => h1 ⟨q, hq, eq⟩) ?_)
        refine r_if_eq (tgt := 25) dX7_film_4 (by decide) (fun _ => ?_) (fun hqz => absurd (by decide) hqz)
        refine r_bipush (v := (-2)) dX7_film_25 rfl ?_
        refine r_ireturn dX7_film_27 rfl rfl ?_
        exact K
end OPS13
