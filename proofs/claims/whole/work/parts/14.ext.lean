/-! what lies outside: texts, ABOVE, Math, arraycopy -/
section QEXT
variable {E : mE} {M : mM} {d pc : Nat} {loc : List (Nat × Value)} {st : List Value} {A : mA} {L : mJ} {Ph : mP}
theorem wm_s1 : Cond.static Lib.Math.max.name ∈ mTb := mTb_of 380 (by decide +kernel) rfl
theorem wm_s2 : Cond.static Lib.Math.min.name ∈ mTb := mTb_of 383 (by decide +kernel) rfl
theorem wm_i : Cond.initialized "java/lang/Math" ∈ mTb := mTb_of 88 (by decide +kernel) rfl
set_option maxRecDepth 20000 in
theorem wm_c1 : Cond.code Lib.Math.max.name Lib.Math.max.code 2 (some .int) ∈ mTb := mTb_of 381 rfl rfl
set_option maxRecDepth 20000 in
theorem wm_c2 : Cond.code Lib.Math.min.name Lib.Math.min.code 2 (some .int) ∈ mTb := mTb_of 384 rfl rfl
theorem r_mmax {idx : Nat} {x y : Int32} (hd : decode M.2.1 pc = .ok (.invokestatic idx, 3)) (hl : Cond.methodLink M.1.cls idx Lib.Math.max.name ∈ mTb) (hcat : (st.map fun v => v.category).sum ≤ 8) (k : qG E M (d + 1) (pc + 3) loc (.int (if x < y then y else x) :: st) A L Ph) : qG E M (d + 1) pc loc (.int y :: .int x :: st) A L Ph := by
  intro hw p l e s m args below meth c H locs ls C hP hS hlv
  have tb := q_tb C
  exact va_mmax C.1 C.2.1 (C.2.2.1.trans hlv.1.symm) C.2.2.2.2.2.1 (tb _ hl) (tb _ wm_s1) (tb _ wm_i) (tb _ wm_c1) (by simp only [mRm]; omega) (by rw [cat_up]; simp only [mRm]; omega) (Nat.zero_le _) (Nat.zero_le _) hd (k hw p l e s m args below meth c H locs ls C hP hS hlv)
theorem r_mmin {idx : Nat} {x y : Int32} (hd : decode M.2.1 pc = .ok (.invokestatic idx, 3)) (hl : Cond.methodLink M.1.cls idx Lib.Math.min.name ∈ mTb) (hcat : (st.map fun v => v.category).sum ≤ 8) (k : qG E M (d + 1) (pc + 3) loc (.int (if y < x then y else x) :: st) A L Ph) : qG E M (d + 1) pc loc (.int y :: .int x :: st) A L Ph := by
  intro hw p l e s m args below meth c H locs ls C hP hS hlv
  have tb := q_tb C
  exact va_mmin C.1 C.2.1 (C.2.2.1.trans hlv.1.symm) C.2.2.2.2.2.1 (tb _ hl) (tb _ wm_s2) (tb _ wm_i) (tb _ wm_c2) (by simp only [mRm]; omega) (by rw [cat_up]; simp only [mRm]; omega) (Nat.zero_le _) (Nat.zero_le _) hd (k hw p l e s m args below meth c H locs ls C hP hS hlv)
theorem wm_a1 : Cond.static arraycopyName ∈ mTb := mTb_of 755 (by decide +kernel) rfl
theorem wm_a2 : Cond.native arraycopyName ∈ mTb := mTb_of 756 (by decide +kernel) rfl
theorem wm_a3 : Cond.initialized "java/lang/System" ∈ mTb := mTb_of 93 (by decide +kernel) rfl
theorem wm_nf : nativeFrameWords "java/lang/System" "arraycopy" 5 ≤ 40 := by decide
theorem wm_lo {x d : Nat} (h : x ≤ 8) : x + (nativeFrameWords "java/lang/System" "arraycopy" 5 + 11) ≤ (mRm (d + 1)).locals := by
  have := wm_nf
  simp only [mRm]
  omega
theorem r_copyi {idx k0 k1 n0 n1 sp dp n : Nat} {rs0 rs1 : List (Option Nat)} (hd : decode M.2.1 pc = .ok (.invokestatic idx, 3)) (hl : Cond.methodLink M.1.cls idx arraycopyName ∈ mTb) (hk0 : (mly E)[k0]? = some (.inl (0, n0, rs0))) (hk1 : (mly E)[k1]? = some (.inl (0, n1, rs1))) (h0 : sp + n ≤ n0) (h1 : dp + n ≤ n1) (hn0 : n0 < 2 ^ 31) (hn1 : n1 < 2 ^ 31) (hcat : (st.map fun v => v.category).sum ≤ 8) (k : qG E M (d + 1) (pc + 3) loc st (va_up A k1 (va_cpy (A k0) (A k1) sp dp n)) L Ph) : qG E M (d + 1) pc loc (.int (nI n) :: .int (nI dp) :: .ref k1 :: .int (nI sp) :: .ref k0 :: st) A L Ph := by
  intro hw p l e s m args below meth c H locs ls C hP hS hlv
  have tb := q_tb C
  have e1 : (nI sp).toNatClampNeg = sp := nI_clamp (by omega)
  have e2 : (nI dp).toNatClampNeg = dp := nI_clamp (by omega)
  have e3 : (nI n).toNatClampNeg = n := nI_clamp (by omega)
  refine va_copyi C.1 C.2.1 (C.2.2.1.trans hlv.1.symm) C.2.2.2.2.2.1 (tb _ hl) (tb _ wm_a2) (tb _ wm_a1) (tb _ wm_a3) C.2.2.2.2.2.2.2.1 hP (mws_D hw) hS k0 k1 0 0 (mws_get hk0) (mws_get hk1) rfl rfl rfl (nI_pos (by omega)) (nI_pos (by omega)) (nI_pos (by omega)) (by rw [e1, e3]; exact h0) (by rw [e2, e3]; exact h1) (fun _ _ => rfl) (by simp only [mRm]; omega) (by rw [cat_up]; exact wm_lo hcat) hd (fun H1 locs1 hP1 hD1 hS1 => ?_)
  rw [e1, e2, e3, mws_set hk1 (A' := va_up A k1 (va_cpy (A k0) (A k1) sp dp n)) (L' := L) (fun q hq => va_up_no hq) (fun _ _ => rfl) (by simp only [mce, va_up_eq]; rfl)] at hP1
  exact k hw p l e s m args below meth c H1 locs1 ls C hP1 hS1 hlv
theorem r_copyl {idx k0 k1 n0 n1 sp dp n : Nat} {rs0 rs1 : List (Option Nat)} (hd : decode M.2.1 pc = .ok (.invokestatic idx, 3)) (hl : Cond.methodLink M.1.cls idx arraycopyName ∈ mTb) (hk0 : (mly E)[k0]? = some (.inl (1, n0, rs0))) (hk1 : (mly E)[k1]? = some (.inl (1, n1, rs1))) (h0 : sp + n ≤ n0) (h1 : dp + n ≤ n1) (hn0 : n0 < 2 ^ 31) (hn1 : n1 < 2 ^ 31) (hcat : (st.map fun v => v.category).sum ≤ 8) (k : qG E M (d + 1) (pc + 3) loc st A (va_up L k1 (va_cpy (L k0) (L k1) sp dp n)) Ph) : qG E M (d + 1) pc loc (.int (nI n) :: .int (nI dp) :: .ref k1 :: .int (nI sp) :: .ref k0 :: st) A L Ph := by
  intro hw p l e s m args below meth c H locs ls C hP hS hlv
  have tb := q_tb C
  have e1 : (nI sp).toNatClampNeg = sp := nI_clamp (by omega)
  have e2 : (nI dp).toNatClampNeg = dp := nI_clamp (by omega)
  have e3 : (nI n).toNatClampNeg = n := nI_clamp (by omega)
  refine va_copyl C.1 C.2.1 (C.2.2.1.trans hlv.1.symm) C.2.2.2.2.2.1 (tb _ hl) (tb _ wm_a2) (tb _ wm_a1) (tb _ wm_a3) C.2.2.2.2.2.2.2.1 hP (mws_D hw) hS k0 k1 1 1 (mws_get hk0) (mws_get hk1) rfl rfl rfl (nI_pos (by omega)) (nI_pos (by omega)) (nI_pos (by omega)) (by rw [e1, e3]; exact h0) (by rw [e2, e3]; exact h1) (fun _ _ => rfl) (by simp only [mRm]; omega) (by rw [cat_up]; exact wm_lo hcat) hd (fun H1 locs1 hP1 hD1 hS1 => ?_)
  rw [e1, e2, e3, mws_set hk1 (A' := A) (L' := va_up L k1 (va_cpy (L k0) (L k1) sp dp n)) (fun _ _ => rfl) (fun q hq => va_up_no hq) (by simp only [mce, va_up_eq]; rfl)] at hP1
  exact k hw p l e s m args below meth c H1 locs1 ls C hP1 hS1 hlv
theorem r_ldcS1002 (hd : decode M.2.1 pc = .ok (.ldc 56, 2)) (hM : M.1.cls = "NoViewWithoutQuarrel") (k : qG E M d (pc + 2) loc (.ref 1002 :: st) A L Ph) : qG E M d pc loc st A L Ph := by
  intro hw p l e s m args below meth c H locs ls C hP hS hlv
  exact va_ldcS C.1 C.2.1 (hM ▸ C.2.2.2.2.2.1) C.2.2.2.2.2.2.2.2.2.2.1 hd (k hw p l e s m args below meth c H locs ls C hP hS hlv)
theorem r_ldcS1003 (hd : decode M.2.1 pc = .ok (.ldc 106, 2)) (hM : M.1.cls = "NoViewWithoutQuarrel$Reader") (k : qG E M d (pc + 2) loc (.ref 1003 :: st) A L Ph) : qG E M d pc loc st A L Ph := by
  intro hw p l e s m args below meth c H locs ls C hP hS hlv
  exact va_ldcS C.1 C.2.1 (hM ▸ C.2.2.2.2.2.1) C.2.2.2.2.2.2.2.2.2.2.2.1 hd (k hw p l e s m args below meth c H locs ls C hP hS hlv)
theorem r_ldcS1004 (hd : decode M.2.1 pc = .ok (.ldc 99, 2)) (hM : M.1.cls = "NoViewWithoutQuarrel$Reader") (k : qG E M d (pc + 2) loc (.ref 1004 :: st) A L Ph) : qG E M d pc loc st A L Ph := by
  intro hw p l e s m args below meth c H locs ls C hP hS hlv
  exact va_ldcS C.1 C.2.1 (hM ▸ C.2.2.2.2.2.1) C.2.2.2.2.2.2.2.2.2.2.2.2.1 hd (k hw p l e s m args below meth c H locs ls C hP hS hlv)
theorem wg_Ab : Cond.fieldLink "NoViewWithoutQuarrel" 328 "NoViewWithoutQuarrel" "ABOVE" "[I" ∈ mTb := mTb_of 897 (by decide +kernel) rfl
theorem wg_CS : Cond.fieldLink "java/lang/String" 38 "java/lang/String" "COMPACT_STRINGS" "Z" ∈ mTb := mTb_of 285 (by decide +kernel) rfl
theorem wg_Fm : Cond.fieldLink "java/lang/String" 1053 "jdk/internal/util/Preconditions" "SIOOBE_FORMATTER" "Ljava/util/function/BiFunction;" ∈ mTb := mTb_of 301 (by decide +kernel) rfl
theorem wg_V : Cond.fieldLink "java/lang/String" 9 "java/lang/String" "value" "[B" ∈ mTb := mTb_of 1304 (by decide +kernel) rfl
theorem wg_Co : Cond.fieldLink "java/lang/String" 15 "java/lang/String" "coder" "B" ∈ mTb := mTb_of 1305 (by decide +kernel) rfl
theorem r_gsAb (hd : decode M.2.1 pc = .ok (.getstatic 328, 3)) (hM : M.1.cls = "NoViewWithoutQuarrel") (k : qG E M d (pc + 3) loc (.ref 1001 :: st) A L Ph) : qG E M d pc loc st A L Ph := by
  intro hw p l e s m args below meth c H locs ls C hP hS hlv
  exact va_gets C.1 C.2.1 C.2.2.2.2.2.2.2.2.2.2.2.2.2.1 hS (hM ▸ C.2.2.2.2.2.1) (q_tb C _ wg_Ab) (fun _ h => h) hd (k hw p l e s m args below meth c H locs ls C hP hS hlv)
theorem r_gsCS (hd : decode M.2.1 pc = .ok (.getstatic 38, 3)) (hM : M.1.cls = "java/lang/String") (k : qG E M d (pc + 3) loc (.int 1 :: st) A L Ph) : qG E M d pc loc st A L Ph := by
  intro hw p l e s m args below meth c H locs ls C hP hS hlv
  exact va_gets C.1 C.2.1 C.2.2.2.2.2.2.2.2.2.2.2.2.2.2.2.1 hS (hM ▸ C.2.2.2.2.2.1) (q_tb C _ wg_CS) (fun _ h => h) hd (k hw p l e s m args below meth c H locs ls C hP hS hlv)
theorem r_gsFm (hd : decode M.2.1 pc = .ok (.getstatic 1053, 3)) (hM : M.1.cls = "java/lang/String") (k : ∀ v, (v = .null ∨ v = .ref 1008) → qG E M d (pc + 3) loc (v :: st) A L Ph) : qG E M d pc loc st A L Ph := by
  intro hw p l e s m args below meth c H locs ls C hP hS hlv
  rcases C.2.2.2.2.2.2.2.2.2.2.2.2.2.2.2.2 with z | z
  · exact va_gets C.1 C.2.1 z hS (hM ▸ C.2.2.2.2.2.1) (q_tb C _ wg_Fm) (fun _ h => h) hd (k .null (Or.inl rfl) hw p l e s m args below meth c H locs ls C hP hS hlv)
  · exact va_gets C.1 C.2.1 z hS (hM ▸ C.2.2.2.2.2.1) (q_tb C _ wg_Fm) (fun _ h => h) hd (k (.ref 1008) (Or.inr rfl) hw p l e s m args below meth c H locs ls C hP hS hlv)
theorem r_abld {j : Nat} (hd : decode M.2.1 pc = .ok (.iaload, 1)) (hj : j < 6) (k : qG E M d (pc + 1) loc (.int (mAb j) :: st) A L Ph) : qG E M d pc loc (.int (nI j) :: .ref 1001 :: st) A L Ph := by
  intro hw p l e s m args below meth c H locs ls C hP hS hlv
  exact va_ti C.1 C.2.1 C.2.2.2.2.2.2.2.2.2.2.2.2.2.2.1 hS (vp_in_nI hj (by decide)) (v := .int (mAb j)) (by rw [nI_clamp (by omega)]) hd (k hw p l e s m args below meth c H locs ls C hP hS hlv)
theorem r_txld {i j : Nat} (hd : decode M.2.1 pc = .ok (.baload, 1)) (hi : i < 3) (hj : j < mTl.getD i 0) (k : qG E M d (pc + 1) loc (.int ((mTx.getD i []).getD j 0) :: st) A L Ph) : qG E M d pc loc (.int (nI j) :: .ref (1005 + i) :: st) A L Ph := by
  intro hw p l e s m args below meth c H locs ls C hP hS hlv
  have hl : mTl.getD i 0 < 2 ^ 31 := by rcases (show i = 0 ∨ i = 1 ∨ i = 2 by omega) with rfl | rfl | rfl <;> decide
  exact va_tb C.1 C.2.1 (C.2.2.2.2.2.2.2.2.2.1.1 i hi).2.2.2 hS (vp_in_nI hj hl) (v := .int ((mTx.getD i []).getD j 0)) (by rw [nI_clamp (by omega)]) hd (k hw p l e s m args below meth c H locs ls C hP hS hlv)
theorem r_txlen {i : Nat} (hd : decode M.2.1 pc = .ok (.arraylength, 1)) (hi : i < 3) (k : qG E M d (pc + 1) loc (.int (nI (mTl.getD i 0)) :: st) A L Ph) : qG E M d pc loc (.ref (1005 + i) :: st) A L Ph := by
  intro hw p l e s m args below meth c H locs ls C hP hS hlv
  exact va_tlen C.1 C.2.1 (C.2.2.2.2.2.2.2.2.2.1.1 i hi).2.2.2 hS (v := nI (mTl.getD i 0)) rfl hd (k hw p l e s m args below meth c H locs ls C hP hS hlv)
theorem r_stV {i : Nat} (hd : decode M.2.1 pc = .ok (.getfield 9, 3)) (hM : M.1.cls = "java/lang/String") (hi : i < 3) (k : qG E M d (pc + 3) loc (.ref (1005 + i) :: st) A L Ph) : qG E M d pc loc (.ref (1002 + i) :: st) A L Ph := by
  intro hw p l e s m args below meth c H locs ls C hP hS hlv
  exact vk_getf C.1 C.2.1 (C.2.2.2.2.2.2.2.2.2.1.1 i hi).2.2.1 hS (hM ▸ C.2.2.2.2.2.1) (q_tb C _ wg_V) (fun _ h => h) hd (k hw p l e s m args below meth c H locs ls C hP hS hlv)
theorem r_stC {i : Nat} (hd : decode M.2.1 pc = .ok (.getfield 15, 3)) (hM : M.1.cls = "java/lang/String") (hi : i < 3) (k : qG E M d (pc + 3) loc (.int 0 :: st) A L Ph) : qG E M d pc loc (.ref (1002 + i) :: st) A L Ph := by
  intro hw p l e s m args below meth c H locs ls C hP hS hlv
  exact vk_getf C.1 C.2.1 (C.2.2.2.2.2.2.2.2.2.1.1 i hi).2.1 hS (hM ▸ C.2.2.2.2.2.1) (q_tb C _ wg_Co) (fun _ h => h) hd (k hw p l e s m args below meth c H locs ls C hP hS hlv)
theorem q_callX {idx i n : Nat} {as stk : List Value} {M' : mM} (hd : decode M.2.1 pc = .ok (.invokevirtual idx, 3)) (hl : mLV M.1.cls idx M' n) (hM : M'.1.cls = "java/lang/String") (hi : i < 3) (hn : as.length = n) (hst : stk = as.reverse ++ .ref (1002 + i) :: st) (hcat : (st.map fun v => v.category).sum ≤ 8)
    (h : qC E M' d (.ref (1002 + i) :: as) A L (fun r A' L' => qG E M (d + 1) (pc + 3) loc (psh r st) A' L' Ph)) : qG E M (d + 1) pc loc stk A L Ph := by
  intro hw p l e s m args below meth c H locs ls C hP hS hlv
  subst hst
  have hrec := vk_recv (A := mfr E) (H := H) (locs := locs) (s := s) C.2.2.2.2.2.2.2.2.2.1 hi hS
  refine q_run (E := E) (rest := st.map (mup E)) (va_runV (b := mad E (1002 + i)) (As := as.map (mup E)) (C := M'.1.cls) ⟨C.1, C.2.1, C.2.2.1, C.2.2.2.2.2.1, C.2.2.2.2.2.2.1⟩ (h hw l) (cwV n C.2.2.2.2.2.2.1 (q_good1 hl) rfl rfl rfl ⟨rfl, hl.2.2.2.2.2.1⟩ (q_room hl.2.2.2.2.2.2)) ⟨q_blind, by rw [hM]; exact hrec, q_pre hP hS C.2.2.2.2.2.2.2.1 C.2.2.2.2.2.2.2.2⟩ rfl (by rw [List.length_map]; exact hn) hlv.1 (by simp [mup, List.map_reverse]) (lv_room (by rw [cat_up]; exact hcat)) hd ⟨Nat.le_refl _, Nat.le_refl _⟩) hS (fun r A' L' H1 locs1 hp hP1 hS1 => ?_)
  rw [psh_up]
  exact hp hw p l e s m args below meth c H1 locs1 ls C hP1 hS1 hlv
theorem r_callX0 {idx i : Nat} {M' : mM} (hd : decode M.2.1 pc = .ok (.invokevirtual idx, 3)) (hl : mLV M.1.cls idx M' 0) (hM : M'.1.cls = "java/lang/String") (hi : i < 3) (hcat : (st.map fun v => v.category).sum ≤ 8) (h : qC E M' d [.ref (1002 + i)] A L (fun r A' L' => qG E M (d + 1) (pc + 3) loc (psh r st) A' L' Ph)) : qG E M (d + 1) pc loc (.ref (1002 + i) :: st) A L Ph := q_callX (as := []) hd hl hM hi rfl rfl hcat h
theorem r_callX1 {idx i : Nat} {v1 : Value} {M' : mM} (hd : decode M.2.1 pc = .ok (.invokevirtual idx, 3)) (hl : mLV M.1.cls idx M' 1) (hM : M'.1.cls = "java/lang/String") (hi : i < 3) (hcat : (st.map fun v => v.category).sum ≤ 8) (h : qC E M' d [.ref (1002 + i), v1] A L (fun r A' L' => qG E M (d + 1) (pc + 3) loc (psh r st) A' L' Ph)) : qG E M (d + 1) pc loc (v1 :: .ref (1002 + i) :: st) A L Ph := q_callX (as := [v1]) hd hl hM hi rfl rfl hcat h
theorem r_callX2 {idx i : Nat} {v1 v2 : Value} {M' : mM} (hd : decode M.2.1 pc = .ok (.invokevirtual idx, 3)) (hl : mLV M.1.cls idx M' 2) (hM : M'.1.cls = "java/lang/String") (hi : i < 3) (hcat : (st.map fun v => v.category).sum ≤ 8) (h : qC E M' d [.ref (1002 + i), v1, v2] A L (fun r A' L' => qG E M (d + 1) (pc + 3) loc (psh r st) A' L' Ph)) : qG E M (d + 1) pc loc (v2 :: v1 :: .ref (1002 + i) :: st) A L Ph := q_callX (as := [v1, v2]) hd hl hM hi rfl rfl hcat h
end QEXT
theorem lmx_X6_208 : Cond.methodLink RX6 208 Lib.Math.max.name ∈ mTb := mTb_of 565 (by decide +kernel) rfl
theorem lac_X6_316 : Cond.methodLink RX6 316 arraycopyName ∈ mTb := mTb_of 884 (by decide +kernel) rfl
theorem lmn_X6_331 : Cond.methodLink RX6 331 Lib.Math.min.name ∈ mTb := mTb_of 564 (by decide +kernel) rfl
theorem lmn_X0_74 : Cond.methodLink RX0 74 Lib.Math.min.name ∈ mTb := mTb_of 721 (by decide +kernel) rfl
theorem lmx_X0_79 : Cond.methodLink RX0 79 Lib.Math.max.name ∈ mTb := mTb_of 701 (by decide +kernel) rfl
theorem lac_X0_88 : Cond.methodLink RX0 88 arraycopyName ∈ mTb := mTb_of 754 (by decide +kernel) rfl
theorem lac_X2_27 : Cond.methodLink RX2 27 arraycopyName ∈ mTb := mTb_of 855 (by decide +kernel) rfl
theorem lmn_X2_51 : Cond.methodLink RX2 51 Lib.Math.min.name ∈ mTb := mTb_of 616 (by decide +kernel) rfl
theorem lmx_X4_85 : Cond.methodLink RX4 85 Lib.Math.max.name ∈ mTb := mTb_of 590 (by decide +kernel) rfl
theorem lmn_X5_32 : Cond.methodLink RX5 32 Lib.Math.min.name ∈ mTb := mTb_of 467 (by decide +kernel) rfl
theorem lmn_J1_38 : Cond.methodLink RJ1 38 Lib.Math.min.name ∈ mTb := mTb_of 382 (by decide +kernel) rfl
theorem lmx_J1_92 : Cond.methodLink RJ1 92 Lib.Math.max.name ∈ mTb := mTb_of 379 (by decide +kernel) rfl
theorem lmn_J2_183 : Cond.methodLink RJ2 183 Lib.Math.min.name ∈ mTb := mTb_of 392 (by decide +kernel) rfl
theorem lmx_J2_224 : Cond.methodLink RJ2 224 Lib.Math.max.name ∈ mTb := mTb_of 391 (by decide +kernel) rfl
