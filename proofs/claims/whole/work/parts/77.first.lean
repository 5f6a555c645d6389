/-! THE FIRST STATE, and the class's constructor from the first text on -/
def S0 : mA := fun k => if k = 38 then (fun j => if j = 11 then 1 else 0) else if k = 42 then (fun j => ([5, -10, 3, -27, -25, 2, -11] : List Int32).getD j 0) else if k = 43 then (fun j => ([5, 6, 7] : List Int32).getD j 0) else if k = 53 then (fun j => if j < 4 then -1 else 0) else fun _ => 0
theorem first_b : ∀ j, j < 42 → (txc 0 j).toNatClampNeg < 256 ∧ txc 0 j = nI (txc 0 j).toNatClampNeg := by decide +kernel
/-- a token, reckoned -/
def wdC (f : Nat → Int32) (s e : Nat) : Nat → Int32
  | 0 => -1
  | k + 1 => if (decide (e - s ≤ 6) && (List.range 6).all (fun j => decide (mNm (6 * k + j) = if s + j < e then f (s + j) else 0))) = true then nI k else wdC f s e k
theorem wdC_mt {f : Nat → Int32} {s e k : Nat} : (decide (e - s ≤ 6) && (List.range 6).all (fun j => decide (mNm (6 * k + j) = if s + j < e then f (s + j) else 0))) = true ↔ mt f s e k := by
  unfold mt
  simp only [Bool.and_eq_true, decide_eq_true_eq, List.all_eq_true, List.mem_range]
theorem wdC_eq {f : Nat → Int32} {s e : Nat} : ∀ n, wdF f s e n = wdC f s e n
  | 0 => rfl
  | k + 1 => by
    by_cases h : mt f s e k
    · rw [wdF_t h, wdC, if_pos (wdC_mt.mpr h)]
    · rw [wdF_f h, wdC, if_neg (fun y => h (wdC_mt.mp y)), wdC_eq k]
def tkC (f : Nat → Int32) (z i : Nat) : Int32 :=
  if so f z (tS f z i) = 0 then 301 else if so f z (tS f z i) = 1 then (if wdC f (tS f z i) (eo f z (tS f z i)) 12 = -1 then 302 else wdC f (tS f z i) (eo f z (tS f z i)) 12)
  else if so f z (tS f z i) = 2 then (if eo f z (tS f z i) - tS f z i ≤ 4 then 300 else 302) else if inS (f (tS f z i)).toNatClampNeg = true then f (tS f z i) else 302
theorem tkC_eq (f : Nat → Int32) (z : Nat) : tk f z = tkC f z := by
  funext i
  unfold tk tkA tkC
  rw [wdC_eq]
theorem first_pT : pT (tk (fun j => txc 0 j) 42) (am (fun j => txc 0 j) 42) 2600 3 0 0 [] [] = .inr ([5, -10, 3, -27, -25, 2, -11], [5, 6, 7]) := by
  rw [tkC_eq]
  decide +kernel
/-- what is asked of the memory ahead of the first text -/
def A6 (A : mA) : Prop := A 0 = (fun _ => 0) ∧ A 1 = (fun _ => 0) ∧ A 3 = (fun _ => 0) ∧ A 4 2 = 0 ∧ A 12 = (fun _ => 0) ∧ ∀ s, s < 4 → A (8 + s) 1 = -1 ∧ A (8 + s) 2 = 0 ∧ A (34 + s) = fun _ => 0
theorem RC_first {A A1 A2 : mA} (h : A6 A) (h1 : Fr [4, 25] A A1) (h2 : CG 0 A1 A2) (h3 : A2 4 2 = 0) (h4 : ∀ j, j < 7 → A2 22 (160 * 0 + j) = enc (([5, -10, 3, -27, -25, 2, -11] : List Int32).getD j 0)) (h5 : EN A2 23 0 [5, 6, 7]) : RC (s2 A2 3 4 (nI 1)) S0 1 0 0 := by
  obtain ⟨a0, a1, a3, a4, a12, as⟩ := h
  have e : ∀ k, k ∉ [3, 4, 22, 23, 25] → s2 A2 3 4 (nI 1) k = A k := by
    intro k hk
    simp at hk
    rw [s2_ne hk.1, h2.1 k (by simp; omega), h1 k (by simp; omega)]
  refine ⟨⟨fun i hi => ?_, fun p hp => absurd hp (Nat.not_lt_zero p), ?_, ?_, ?_⟩, ?_, fun z => absurd z (by decide), ⟨?_, fun i hi => ?_, fun r i hr hi => ?_⟩, ⟨?_, fun i hi => absurd hi (Nat.not_lt_zero i)⟩, fun s hs => ?_⟩
  · rw [e 12 (by decide), a12]; rfl
  · rw [e 1 (by decide), a1]; rfl
  · rw [e 1 (by decide), a1]; rfl
  · rw [e 1 (by decide), a1]; rfl
  · rw [e 0 (by decide), a0]; rfl
  · rw [s2_same]; rfl
  · rw [s2_ne (by decide)]
    have := h5 i (by simpa using hi)
    rw [Nat.mul_zero, Nat.zero_add] at this
    rw [this]
    rcases (show i = 0 ∨ i = 1 ∨ i = 2 by omega) with rfl | rfl | rfl <;> rfl
  · have hr : r = 0 := by omega
    subst hr
    rw [s2_ne (by decide), h4 i hi]
    show _ = enc (([5, -10, 3, -27, -25, 2, -11] : List Int32).getD (160 * 0 + i) 0)
    rw [show 160 * 0 + i = i by omega]
  · rw [s2_ne (by decide), h3]; rfl
  · obtain ⟨b1, b2, b3⟩ := as s hs
    refine ⟨?_, ?_, fun i hi => ?_⟩
    · rw [e (8 + s) (by simp; omega), b1]
      show -1 = if s < 4 then (-1 : Int32) else 0
      rw [if_pos hs]
    · rw [e (8 + s) (by simp; omega), b2]; rfl
    · rw [e (34 + s) (by simp; omega), b3]; rfl
section XTAIL
variable {E : mE} {p : Program} {l : Launch} {e : Env} {R : Room} {s : State} {m : MethodId} {args : Array Value} {below : List Frame} {meth : Method} {c : Code} {kc ks : Nat} {A : mA} {L : mJ}
theorem x6_end (C : mCx E mm_X6_init p s m args meth c) (hw : mWf E) (hE : hC E) (hR : gRm R 92 kc ks) {A0 : mA} (h6 : A6 A0) (hf : Fr [4, 25] A0 A) (h2 : A 4 2 = nI 42) (h25 : ∀ j, j < 42 → A 25 j = txc 0 j) {v : Value} : gG E mm_X6_init p l e R s m args below meth c (MQ below (mQ E (fun r A' _ => r = none ∧ RC A' S0 1 0 0)) args s kc ks (mfr E)) kc ks 157 [(1, v), (0, .ref 0)] [] A L := by
  refine g_aload C dX6_init_157 rfl ?_
  refine g_getR C dX6_init_158 fl_X6_31 (ly_0 hE) rfl ?_
  have h34 : A 3 4 = nI 0 := by rw [hf 3 (by decide), h6.2.2.1]; rfl
  refine g_call (as := []) C hw hR dX6_init_161 lk_X6_72 (ly_4 hE) rfl rfl rfl (Nat.le_of_ble_eq_true rfl) (sp_read (d := 2) (z := 42) (f := fun j => txc 0 j) (F := 2600) hE (by decide) (fun j hj => ⟨_, (first_b j hj).1, (first_b j hj).2⟩) (by decide) (Nat.le_refl _) h2 h25 h34 (fun A' j hp => by rw [first_pT] at hp; cases hp) (fun A' out es hp cg h42 ho he => ?_))
  rw [first_pT] at hp
  cases hp
  refine g_pop C dX6_init_164 ?_
  refine g_aload C dX6_init_165 rfl ?_
  refine g_getR C dX6_init_166 fl_X6_22 (ly_0 hE) rfl ?_
  refine g_call (as := []) C hw hR dX6_init_169 lk_X6_75 (ly_3 hE) rfl rfl rfl (Nat.le_of_ble_eq_true rfl) (sp_keep (d := 91) (T := 0) hE (by decide) (by rw [cg.2.2.2, h34]) ?_)
  refine g_pop C dX6_init_172 ?_
  exact g_ret C dX6_init_173 rfl ⟨rfl, RC_first h6 hf cg h42 ho he⟩
theorem x6_loop (C : mCx E mm_X6_init p s m args meth c) (hw : mWf E) (hE : hC E) (hR : gRm R 92 kc ks) {A0 : mA} (h6 : A6 A0) : ∀ (f i : Nat) (A : mA), i + f = 42 → Fr [4, 25] A0 A → A 4 2 = nI i → (∀ j, j < i → A 25 j = txc 0 j) → gG E mm_X6_init p l e R s m args below meth c (MQ below (mQ E (fun r A' _ => r = none ∧ RC A' S0 1 0 0)) args s kc ks (mfr E)) kc ks 128 [(1, .int (nI i)), (0, .ref 0)] [] A L := by
  intro f
  induction f with
  | zero =>
    intro i A hi hf h2 h25
    have hi : i = 42 := by omega
    subst hi
    refine g_iload C dX6_init_128 rfl ?_
    refine g_ldc C dX6_init_129 rfl ?_
    refine g_callX (i := 0) (as := []) C hw hR dX6_init_131 lk_X6_58 rfl (by decide) rfl rfl (Nat.le_of_ble_eq_true rfl) (sp_length (d := 91) (by decide) ?_)
    refine g_ge (tgt := 157) C dX6_init_134 (by decide) (fun _ => x6_end C hw hE hR h6 hf h2 h25) (fun z => absurd (by decide) z)
  | succ f ih =>
    intro i A hi hf h2 h25
    refine g_iload C dX6_init_128 rfl ?_
    refine g_ldc C dX6_init_129 rfl ?_
    refine g_callX (i := 0) (as := []) C hw hR dX6_init_131 lk_X6_58 rfl (by decide) rfl rfl (Nat.le_of_ble_eq_true rfl) (sp_length (d := 91) (by decide) ?_)
    refine g_ge (tgt := 157) C dX6_init_134 (by decide) (fun z => absurd z (nI_ge (a := i) (b := 42) (by omega) (by decide))) (fun _ => ?_)
    refine g_aload C dX6_init_137 rfl ?_
    refine g_getR C dX6_init_138 fl_X6_31 (ly_0 hE) rfl ?_
    refine g_ldc C dX6_init_141 rfl ?_
    refine g_iload C dX6_init_143 rfl ?_
    refine g_callX (i := 0) (as := [.int (nI i)]) C hw hR dX6_init_144 lk_X6_64 rfl (by decide) rfl rfl (Nat.le_of_ble_eq_true rfl) (sp_charAt (d := 89) (j := i) (by decide) (show i < 42 by omega) ?_)
    have hb := first_b i (by omega)
    rw [hb.2]
    refine g_call (as := [.int (nI (txc 0 i).toNatClampNeg)]) C hw hR dX6_init_147 lk_X6_68 (ly_4 hE) rfl rfl rfl (Nat.le_of_ble_eq_true rfl) (put_t (d := 91) (z := i) hE (by omega) h2 ?_)
    refine g_pop C dX6_init_150 ?_
    refine g_iinc (v := nI (i + 1)) (loc' := [(1, .int (nI (i + 1))), (0, .ref 0)]) C dX6_init_151 rfl ((nI_succ _).symm) (by decide) rfl ?_
    refine g_goto (tgt := 128) C dX6_init_154 (by decide) ?_
    refine ih (i + 1) _ (by omega) (hf.tr ((Fr.s2 (by decide)).tr (Fr.s2 (by decide)))) s2_same (fun j hj => ?_)
    rw [s2_ne (by decide)]
    by_cases hji : j = i
    · subst hji
      rw [s2_same]
      exact hb.2.symm
    · rw [s2_nj (fun _ => hji)]
      exact h25 j (by omega)
theorem x6_tail (C : mCx E mm_X6_init p s m args meth c) (hw : mWf E) (hE : hC E) (hR : gRm R 92 kc ks) (h6 : A6 A) : gG E mm_X6_init p l e R s m args below meth c (MQ below (mQ E (fun r A' _ => r = none ∧ RC A' S0 1 0 0)) args s kc ks (mfr E)) kc ks 126 [(0, .ref 0)] [] A L := by
  refine g_iconst (v := nI 0) C dX6_init_126 rfl ?_
  refine g_istore (loc' := [(1, .int (nI 0)), (0, .ref 0)]) C dX6_init_127 (by decide) rfl ?_
  exact x6_loop C hw hE hR h6 42 0 A rfl Fr.rf h6.2.2.2.1 (fun j hj => absurd hj (Nat.not_lt_zero j))
end XTAIL
