/-! THE CLASS'S OWN CONSTRUCTOR -/
def zA : mA := fun _ _ => 0
def zL : mJ := fun _ _ => 0
def R6 : Room := { frames := 93, cells := 37, slots := 2841, locals := 6000 }
/-- the order in which the class's cells are made -/
def offC : List Nat := [0, 1, 7, 13, 17, 19, 21, 29, 30, 32, 34, 36, 2, 3, 4, 5, 6, 8, 9, 10, 11, 12, 14, 15, 16, 18, 20, 22, 23, 24, 25, 26, 27, 28, 31, 33, 35, 37]
def nX6 (U : State) : Prop := va_Nw (.methodLinkNest RX6 9 yX2_init "NoViewWithoutQuarrel") U ∧ va_Nw (.methodLinkNest RX6 21 yX5_init "NoViewWithoutQuarrel") U ∧ va_Nw (.methodLinkNest RX6 44 yX0_init "NoViewWithoutQuarrel") U ∧ va_Nw (.methodLinkNest RX6 51 yX3_init "NoViewWithoutQuarrel") U ∧ va_AO "NoViewWithoutQuarrel$Sheet" U
theorem nRm_of {R R' : Room} {maxL mc ms kc ks : Nat} (h1 : R'.cells = mc) (h2 : R'.slots = ms) (h3 : R'.frames + 1 ≤ R.frames) (h4 : 8 + (maxL + 11) + R'.locals ≤ R.locals) (h5 : kc + mc ≤ R.cells) (h6 : ks + ms ≤ R.slots) : nRm R R' maxL mc ms kc ks := by
  unfold nRm
  exact ⟨⟨h1, h2⟩, ⟨h3, h4⟩, h5, h6⟩
theorem nG_ns {E : mE} {M : mM} {p : Program} {l : Launch} {e : Env} {R : Room} {s : State} {m : MethodId} {args : Array Value} {below : List Frame} {meth : Method} {c : Code} {Q : State → Prop} {kc ks pc : Nat} {loc : List (Nat × Value)} {st : List Value} {A : mA} {L : mJ} {ns ns' : List (Nat × mK)} (h : ns = ns') (k : nG E M p l e R s m args below meth c Q kc ks pc loc st A L ns') : nG E M p l e R s m args below meth c Q kc ks pc loc st A L ns := h ▸ k
set_option maxRecDepth 100000 in
set_option maxHeartbeats 2000000 in
theorem x6_walk {E : mE} {p : Program} {l : Launch} {e : Env} {s : State} {m : MethodId} {args : Array Value} {below : List Frame} {meth : Method} {c : Code} {h : Nat} (C : nCx E mm_X6_init p s m args meth c (h + 1)) (hE : mly E = mLc) (hw : mWf E) (hm : ∀ k, k < 38 → mad E k = h + offC.getD k 0) (hn : nX6 s) : nG E mm_X6_init p l e R6 s m args below meth c (MQ below (mQ E (fun r A' _ => r = none ∧ RC A' S0 1 0 0)) args s 37 2841 (mfr E)) 0 0 0 [(0, .ref 0)] [] zA zL [(0, .inr (6, [.null, .null, .int 0, .null, .null, .null, .null, .null]))] := by
  obtain ⟨n1, n2, n3, n4, n5⟩ := hn
  have q0 : mad E 0 = h + 0 := hm 0 (by decide)
  have q1 : mad E 1 = h + 1 := hm 1 (by decide)
  have q2 : mad E 2 = h + 7 := hm 2 (by decide)
  have q3 : mad E 3 = h + 13 := hm 3 (by decide)
  have q4 : mad E 4 = h + 17 := hm 4 (by decide)
  have q5 : mad E 5 = h + 19 := hm 5 (by decide)
  have q6 : mad E 6 = h + 21 := hm 6 (by decide)
  have q7 : mad E 7 = h + 29 := hm 7 (by decide)
  have q8 : mad E 8 = h + 30 := hm 8 (by decide)
  have q9 : mad E 9 = h + 32 := hm 9 (by decide)
  have q10 : mad E 10 = h + 34 := hm 10 (by decide)
  have q11 : mad E 11 = h + 36 := hm 11 (by decide)
  have q12 : mad E 12 = h + 2 := hm 12 (by decide)
  have q13 : mad E 13 = h + 3 := hm 13 (by decide)
  have q14 : mad E 14 = h + 4 := hm 14 (by decide)
  have q15 : mad E 15 = h + 5 := hm 15 (by decide)
  have q16 : mad E 16 = h + 6 := hm 16 (by decide)
  have q17 : mad E 17 = h + 8 := hm 17 (by decide)
  have q18 : mad E 18 = h + 9 := hm 18 (by decide)
  have q19 : mad E 19 = h + 10 := hm 19 (by decide)
  have q20 : mad E 20 = h + 11 := hm 20 (by decide)
  have q21 : mad E 21 = h + 12 := hm 21 (by decide)
  have q22 : mad E 22 = h + 14 := hm 22 (by decide)
  have q23 : mad E 23 = h + 15 := hm 23 (by decide)
  have q24 : mad E 24 = h + 16 := hm 24 (by decide)
  have q25 : mad E 25 = h + 18 := hm 25 (by decide)
  have q26 : mad E 26 = h + 20 := hm 26 (by decide)
  have q27 : mad E 27 = h + 22 := hm 27 (by decide)
  have q28 : mad E 28 = h + 23 := hm 28 (by decide)
  have q29 : mad E 29 = h + 24 := hm 29 (by decide)
  have q30 : mad E 30 = h + 25 := hm 30 (by decide)
  have q31 : mad E 31 = h + 26 := hm 31 (by decide)
  have q32 : mad E 32 = h + 27 := hm 32 (by decide)
  have q33 : mad E 33 = h + 28 := hm 33 (by decide)
  have q34 : mad E 34 = h + 31 := hm 34 (by decide)
  have q35 : mad E 35 = h + 33 := hm 35 (by decide)
  have q36 : mad E 36 = h + 35 := hm 36 (by decide)
  have q37 : mad E 37 = h + 37 := hm 37 (by decide)
  refine k_aload C dX6_init_0 rfl ?_
  refine k_obj C dX6_init_1 ob_X6 ob_i ob_c (by decide) (by decide) ?_
  refine k_aload C dX6_init_4 rfl ?_
  refine k_new (k := 1) C dX6_init_5 nw_X6_7 rfl (q1.trans (by omega)) (by decide) (by decide) ?_
  refine k_dup C dX6_init_8 ?_
  refine k_initN (M' := mm_X2_init) (mc := 5) (ms := 60) (as := []) C dX6_init_9 n1 iw_X2 ok_X2_init rfl rfl rfl rfl (Nat.le_of_ble_eq_true rfl) (nRm_of rfl rfl (by decide) (by decide) (by decide) (by decide)) (nb_X2 (k := 1) (a0 := 12) (a1 := 13) (a2 := 14) (a3 := 15) (a4 := 16) (fun q hq => by simp at hq; rcases hq with rfl | rfl | rfl | rfl | rfl <;> rfl) (q12.trans (by omega)) (q13.trans (by omega)) (q14.trans (by omega)) (q15.trans (by omega)) (q16.trans (by omega))) ?_
  refine k_put (i := 6) C dX6_init_12 rfl fl_X6_10 ff_6_0 (fun _ => rfl) (fun _ => rfl) rfl (Nat.le_of_ble_eq_true rfl) rfl ?_
  refine nG_ns (ns' := [(16, .inl (0, 5, [])), (15, .inl (0, 5, [])), (14, .inl (0, 5, [])), (13, .inl (0, 5, [])), (12, .inl (0, 40, [])), (1, .inr (2, [.ref 12, .ref 13, .ref 14, .ref 15, .ref 16, .int 0, .int 0, .int 0])), (0, .inr (6, [.ref 1, .null, .int 0, .null, .null, .null, .null, .null]))]) rfl ?_
  refine k_aload C dX6_init_15 rfl ?_
  refine k_new (k := 2) C dX6_init_16 nw_X6_7 rfl (q2.trans (by omega)) (by decide) (by decide) ?_
  refine k_dup C dX6_init_19 ?_
  refine k_initN (M' := mm_X2_init) (mc := 5) (ms := 60) (as := []) C dX6_init_20 n1 iw_X2 ok_X2_init rfl rfl rfl rfl (Nat.le_of_ble_eq_true rfl) (nRm_of rfl rfl (by decide) (by decide) (by decide) (by decide)) (nb_X2 (k := 2) (a0 := 17) (a1 := 18) (a2 := 19) (a3 := 20) (a4 := 21) (fun q hq => by simp at hq; rcases hq with rfl | rfl | rfl | rfl | rfl <;> rfl) (q17.trans (by omega)) (q18.trans (by omega)) (q19.trans (by omega)) (q20.trans (by omega)) (q21.trans (by omega))) ?_
  refine k_put (i := 12) C dX6_init_23 rfl fl_X6_16 ff_6_1 (fun _ => rfl) (fun _ => rfl) rfl (Nat.le_of_ble_eq_true rfl) rfl ?_
  refine nG_ns (ns' := [(21, .inl (0, 5, [])), (20, .inl (0, 5, [])), (19, .inl (0, 5, [])), (18, .inl (0, 5, [])), (17, .inl (0, 40, [])), (2, .inr (2, [.ref 17, .ref 18, .ref 19, .ref 20, .ref 21, .int 0, .int 0, .int 0])), (16, .inl (0, 5, [])), (15, .inl (0, 5, [])), (14, .inl (0, 5, [])), (13, .inl (0, 5, [])), (12, .inl (0, 40, [])), (1, .inr (2, [.ref 12, .ref 13, .ref 14, .ref 15, .ref 16, .int 0, .int 0, .int 0])), (0, .inr (6, [.ref 1, .ref 2, .int 0, .null, .null, .null, .null, .null]))]) rfl ?_
  refine k_aload C dX6_init_26 rfl ?_
  refine k_new (k := 3) C dX6_init_27 nw_X6_19 rfl (q3.trans (by omega)) (by decide) (by decide) ?_
  refine k_dup C dX6_init_30 ?_
  refine k_initN (M' := mm_X5_init) (mc := 3) (ms := 1138) (as := []) C dX6_init_31 n2 iw_X5 ok_X5_init rfl rfl rfl rfl (Nat.le_of_ble_eq_true rfl) (nRm_of rfl rfl (by decide) (by decide) (by decide) (by decide)) (nb_X5 (k := 3) (a0 := 22) (a1 := 23) (a2 := 24) (fun q hq => by simp at hq; rcases hq with rfl | rfl | rfl <;> rfl) (q22.trans (by omega)) (q23.trans (by omega)) (q24.trans (by omega))) ?_
  refine k_put (i := 16) C dX6_init_34 rfl fl_X6_22 ff_6_3 (fun _ => rfl) (fun _ => rfl) rfl (Nat.le_of_ble_eq_true rfl) rfl ?_
  refine nG_ns (ns' := [(24, .inl (0, 160, [])), (23, .inl (0, 18, [])), (22, .inl (0, 960, [])), (3, .inr (5, [.ref 22, .ref 23, .ref 24, .int 0, .int 0])), (21, .inl (0, 5, [])), (20, .inl (0, 5, [])), (19, .inl (0, 5, [])), (18, .inl (0, 5, [])), (17, .inl (0, 40, [])), (2, .inr (2, [.ref 17, .ref 18, .ref 19, .ref 20, .ref 21, .int 0, .int 0, .int 0])), (16, .inl (0, 5, [])), (15, .inl (0, 5, [])), (14, .inl (0, 5, [])), (13, .inl (0, 5, [])), (12, .inl (0, 40, [])), (1, .inr (2, [.ref 12, .ref 13, .ref 14, .ref 15, .ref 16, .int 0, .int 0, .int 0])), (0, .inr (6, [.ref 1, .ref 2, .int 0, .ref 3, .null, .null, .null, .null]))]) rfl ?_
  refine k_aload C dX6_init_37 rfl ?_
  refine k_new (k := 4) C dX6_init_38 nw_X6_26 rfl (q4.trans (by omega)) (by decide) (by decide) ?_
  refine k_dup C dX6_init_41 ?_
  refine k_aload C dX6_init_42 rfl ?_
  refine k_getR (i := 17) C dX6_init_43 fl_X6_22 rfl rfl ?_
  refine k_init (M' := mm_X1_init) (mc := 1) (ms := 160) (as := [.ref 3]) C dX6_init_46 (mTb_of 172 (by decide +kernel) rfl) iw_X1 ok_X1_init rfl rfl rfl rfl (Nat.le_of_ble_eq_true rfl) (nRm_of rfl rfl (by decide) (by decide) (by decide) (by decide)) (nb_X1 (k := 4) (t := 3) (a0 := 25) (fun q hq => by simp at hq; subst hq; rfl) (q25.trans (by omega))) ?_
  refine k_put (i := 18) C dX6_init_49 rfl fl_X6_31 ff_6_4 (fun _ => rfl) (fun _ => rfl) rfl (Nat.le_of_ble_eq_true rfl) rfl ?_
  refine nG_ns (ns' := [(25, .inl (0, 160, [])), (4, .inr (1, [.ref 3, .ref 25, .int 0, .int 0, .int 0, .int 0, .int 0, .int 0])), (24, .inl (0, 160, [])), (23, .inl (0, 18, [])), (22, .inl (0, 960, [])), (3, .inr (5, [.ref 22, .ref 23, .ref 24, .int 0, .int 0])), (21, .inl (0, 5, [])), (20, .inl (0, 5, [])), (19, .inl (0, 5, [])), (18, .inl (0, 5, [])), (17, .inl (0, 40, [])), (2, .inr (2, [.ref 17, .ref 18, .ref 19, .ref 20, .ref 21, .int 0, .int 0, .int 0])), (16, .inl (0, 5, [])), (15, .inl (0, 5, [])), (14, .inl (0, 5, [])), (13, .inl (0, 5, [])), (12, .inl (0, 40, [])), (1, .inr (2, [.ref 12, .ref 13, .ref 14, .ref 15, .ref 16, .int 0, .int 0, .int 0])), (0, .inr (6, [.ref 1, .ref 2, .int 0, .ref 3, .ref 4, .null, .null, .null]))]) rfl ?_
  refine k_aload C dX6_init_52 rfl ?_
  refine k_new (k := 5) C dX6_init_53 nw_X6_35 rfl (q5.trans (by omega)) (by decide) (by decide) ?_
  refine k_dup C dX6_init_56 ?_
  refine k_aload C dX6_init_57 rfl ?_
  refine k_getR (i := 19) C dX6_init_58 fl_X6_22 rfl rfl ?_
  refine k_init (M' := mm_X4_init) (mc := 1) (ms := 6) (as := [.ref 3]) C dX6_init_61 (mTb_of 204 (by decide +kernel) rfl) iw_X4 ok_X4_init rfl rfl rfl rfl (Nat.le_of_ble_eq_true rfl) (nRm_of rfl rfl (by decide) (by decide) (by decide) (by decide)) (nb_X4 (k := 5) (t := 3) (a0 := 26) (fun q hq => by simp at hq; subst hq; rfl) (q26.trans (by omega))) ?_
  refine k_put (i := 20) C dX6_init_64 rfl fl_X6_38 ff_6_5 (fun _ => rfl) (fun _ => rfl) rfl (Nat.le_of_ble_eq_true rfl) rfl ?_
  refine nG_ns (ns' := [(26, .inl (0, 6, [])), (5, .inr (4, [.ref 3, .ref 26, .int 0, .int 0])), (25, .inl (0, 160, [])), (4, .inr (1, [.ref 3, .ref 25, .int 0, .int 0, .int 0, .int 0, .int 0, .int 0])), (24, .inl (0, 160, [])), (23, .inl (0, 18, [])), (22, .inl (0, 960, [])), (3, .inr (5, [.ref 22, .ref 23, .ref 24, .int 0, .int 0])), (21, .inl (0, 5, [])), (20, .inl (0, 5, [])), (19, .inl (0, 5, [])), (18, .inl (0, 5, [])), (17, .inl (0, 40, [])), (2, .inr (2, [.ref 17, .ref 18, .ref 19, .ref 20, .ref 21, .int 0, .int 0, .int 0])), (16, .inl (0, 5, [])), (15, .inl (0, 5, [])), (14, .inl (0, 5, [])), (13, .inl (0, 5, [])), (12, .inl (0, 40, [])), (1, .inr (2, [.ref 12, .ref 13, .ref 14, .ref 15, .ref 16, .int 0, .int 0, .int 0])), (0, .inr (6, [.ref 1, .ref 2, .int 0, .ref 3, .ref 4, .ref 5, .null, .null]))]) rfl ?_
  refine k_aload C dX6_init_67 rfl ?_
  refine k_new (k := 6) C dX6_init_68 nw_X6_42 rfl (q6.trans (by omega)) (by decide) (by decide) ?_
  refine k_dup C dX6_init_71 ?_
  refine k_initN (M' := mm_X0_init) (mc := 7) (ms := 1200) (as := []) C dX6_init_72 n3 iw_X0 ok_X0_init rfl rfl rfl rfl (Nat.le_of_ble_eq_true rfl) (nRm_of rfl rfl (by decide) (by decide) (by decide) (by decide)) (nb_X0 (k := 6) (a0 := 27) (a1 := 28) (a2 := 29) (a3 := 30) (a4 := 31) (a5 := 32) (a6 := 33) (fun q hq => by simp at hq; rcases hq with rfl | rfl | rfl | rfl | rfl | rfl | rfl <;> rfl) (fun q hq => by simp at hq; rcases hq with rfl | rfl | rfl | rfl | rfl | rfl | rfl <;> rfl) (q27.trans (by omega)) (q28.trans (by omega)) (q29.trans (by omega)) (q30.trans (by omega)) (q31.trans (by omega)) (q32.trans (by omega)) (q33.trans (by omega))) ?_
  refine k_put (i := 28) C dX6_init_75 rfl fl_X6_45 ff_6_6 (fun _ => rfl) (fun _ => rfl) rfl (Nat.le_of_ble_eq_true rfl) rfl ?_
  refine nG_ns (ns' := [(33, .inl (1, 100, [])), (32, .inl (1, 100, [])), (31, .inl (0, 600, [])), (30, .inl (0, 100, [])), (29, .inl (0, 100, [])), (28, .inl (0, 100, [])), (27, .inl (0, 100, [])), (6, .inr (0, [.ref 27, .ref 28, .ref 29, .ref 30, .ref 31, .ref 32, .ref 33, .int 0])), (26, .inl (0, 6, [])), (5, .inr (4, [.ref 3, .ref 26, .int 0, .int 0])), (25, .inl (0, 160, [])), (4, .inr (1, [.ref 3, .ref 25, .int 0, .int 0, .int 0, .int 0, .int 0, .int 0])), (24, .inl (0, 160, [])), (23, .inl (0, 18, [])), (22, .inl (0, 960, [])), (3, .inr (5, [.ref 22, .ref 23, .ref 24, .int 0, .int 0])), (21, .inl (0, 5, [])), (20, .inl (0, 5, [])), (19, .inl (0, 5, [])), (18, .inl (0, 5, [])), (17, .inl (0, 40, [])), (2, .inr (2, [.ref 17, .ref 18, .ref 19, .ref 20, .ref 21, .int 0, .int 0, .int 0])), (16, .inl (0, 5, [])), (15, .inl (0, 5, [])), (14, .inl (0, 5, [])), (13, .inl (0, 5, [])), (12, .inl (0, 40, [])), (1, .inr (2, [.ref 12, .ref 13, .ref 14, .ref 15, .ref 16, .int 0, .int 0, .int 0])), (0, .inr (6, [.ref 1, .ref 2, .int 0, .ref 3, .ref 4, .ref 5, .ref 6, .null]))]) rfl ?_
  refine k_aload C dX6_init_78 rfl ?_
  refine k_iconst (v := 4) C dX6_init_79 rfl ?_
  refine k_anew (k := 7) C dX6_init_80 (mTb_of 256 (by decide +kernel) rfl) rfl n5 (q7.trans (by omega)) (by decide) (by decide) ?_
  refine k_dup C dX6_init_83 ?_
  refine k_iconst (v := nI 0) C dX6_init_84 rfl ?_
  refine k_new (k := 8) C dX6_init_85 nw_X6_49 rfl (q8.trans (by omega)) (by decide) (by decide) ?_
  refine k_dup C dX6_init_88 ?_
  refine k_initN (M' := mm_X3_init) (mc := 1) (ms := 40) (as := []) C dX6_init_89 n4 iw_X3 ok_X3_init rfl rfl rfl rfl (Nat.le_of_ble_eq_true rfl) (nRm_of rfl rfl (by decide) (by decide) (by decide) (by decide)) (nb_X3 (k := 8) (a0 := 34) (fun q hq => by simp at hq; subst hq; rfl) (q34.trans (by omega))) ?_
  refine k_aast (i := 2) (iv := 1) C dX6_init_92 rfl (by decide) (by decide) (by decide) rfl ?_
  refine nG_ns (ns' := [(34, .inl (0, 40, [])), (8, .inr (3, [.ref 34, .int 0, .int 0])), (7, .inl (4, 4, [some 8, none, none, none])), (33, .inl (1, 100, [])), (32, .inl (1, 100, [])), (31, .inl (0, 600, [])), (30, .inl (0, 100, [])), (29, .inl (0, 100, [])), (28, .inl (0, 100, [])), (27, .inl (0, 100, [])), (6, .inr (0, [.ref 27, .ref 28, .ref 29, .ref 30, .ref 31, .ref 32, .ref 33, .int 0])), (26, .inl (0, 6, [])), (5, .inr (4, [.ref 3, .ref 26, .int 0, .int 0])), (25, .inl (0, 160, [])), (4, .inr (1, [.ref 3, .ref 25, .int 0, .int 0, .int 0, .int 0, .int 0, .int 0])), (24, .inl (0, 160, [])), (23, .inl (0, 18, [])), (22, .inl (0, 960, [])), (3, .inr (5, [.ref 22, .ref 23, .ref 24, .int 0, .int 0])), (21, .inl (0, 5, [])), (20, .inl (0, 5, [])), (19, .inl (0, 5, [])), (18, .inl (0, 5, [])), (17, .inl (0, 40, [])), (2, .inr (2, [.ref 17, .ref 18, .ref 19, .ref 20, .ref 21, .int 0, .int 0, .int 0])), (16, .inl (0, 5, [])), (15, .inl (0, 5, [])), (14, .inl (0, 5, [])), (13, .inl (0, 5, [])), (12, .inl (0, 40, [])), (1, .inr (2, [.ref 12, .ref 13, .ref 14, .ref 15, .ref 16, .int 0, .int 0, .int 0])), (0, .inr (6, [.ref 1, .ref 2, .int 0, .ref 3, .ref 4, .ref 5, .ref 6, .null]))]) rfl ?_
  refine k_dup C dX6_init_93 ?_
  refine k_iconst (v := nI 1) C dX6_init_94 rfl ?_
  refine k_new (k := 9) C dX6_init_95 nw_X6_49 rfl (q9.trans (by omega)) (by decide) (by decide) ?_
  refine k_dup C dX6_init_98 ?_
  refine k_initN (M' := mm_X3_init) (mc := 1) (ms := 40) (as := []) C dX6_init_99 n4 iw_X3 ok_X3_init rfl rfl rfl rfl (Nat.le_of_ble_eq_true rfl) (nRm_of rfl rfl (by decide) (by decide) (by decide) (by decide)) (nb_X3 (k := 9) (a0 := 35) (fun q hq => by simp at hq; subst hq; rfl) (q35.trans (by omega))) ?_
  refine k_aast (i := 4) (iv := 1) C dX6_init_102 rfl (by decide) (by decide) (by decide) rfl ?_
  refine nG_ns (ns' := [(35, .inl (0, 40, [])), (9, .inr (3, [.ref 35, .int 0, .int 0])), (34, .inl (0, 40, [])), (8, .inr (3, [.ref 34, .int 0, .int 0])), (7, .inl (4, 4, [some 8, some 9, none, none])), (33, .inl (1, 100, [])), (32, .inl (1, 100, [])), (31, .inl (0, 600, [])), (30, .inl (0, 100, [])), (29, .inl (0, 100, [])), (28, .inl (0, 100, [])), (27, .inl (0, 100, [])), (6, .inr (0, [.ref 27, .ref 28, .ref 29, .ref 30, .ref 31, .ref 32, .ref 33, .int 0])), (26, .inl (0, 6, [])), (5, .inr (4, [.ref 3, .ref 26, .int 0, .int 0])), (25, .inl (0, 160, [])), (4, .inr (1, [.ref 3, .ref 25, .int 0, .int 0, .int 0, .int 0, .int 0, .int 0])), (24, .inl (0, 160, [])), (23, .inl (0, 18, [])), (22, .inl (0, 960, [])), (3, .inr (5, [.ref 22, .ref 23, .ref 24, .int 0, .int 0])), (21, .inl (0, 5, [])), (20, .inl (0, 5, [])), (19, .inl (0, 5, [])), (18, .inl (0, 5, [])), (17, .inl (0, 40, [])), (2, .inr (2, [.ref 17, .ref 18, .ref 19, .ref 20, .ref 21, .int 0, .int 0, .int 0])), (16, .inl (0, 5, [])), (15, .inl (0, 5, [])), (14, .inl (0, 5, [])), (13, .inl (0, 5, [])), (12, .inl (0, 40, [])), (1, .inr (2, [.ref 12, .ref 13, .ref 14, .ref 15, .ref 16, .int 0, .int 0, .int 0])), (0, .inr (6, [.ref 1, .ref 2, .int 0, .ref 3, .ref 4, .ref 5, .ref 6, .null]))]) rfl ?_
  refine k_dup C dX6_init_103 ?_
  refine k_iconst (v := nI 2) C dX6_init_104 rfl ?_
  refine k_new (k := 10) C dX6_init_105 nw_X6_49 rfl (q10.trans (by omega)) (by decide) (by decide) ?_
  refine k_dup C dX6_init_108 ?_
  refine k_initN (M' := mm_X3_init) (mc := 1) (ms := 40) (as := []) C dX6_init_109 n4 iw_X3 ok_X3_init rfl rfl rfl rfl (Nat.le_of_ble_eq_true rfl) (nRm_of rfl rfl (by decide) (by decide) (by decide) (by decide)) (nb_X3 (k := 10) (a0 := 36) (fun q hq => by simp at hq; subst hq; rfl) (q36.trans (by omega))) ?_
  refine k_aast (i := 6) (iv := 1) C dX6_init_112 rfl (by decide) (by decide) (by decide) rfl ?_
  refine nG_ns (ns' := [(36, .inl (0, 40, [])), (10, .inr (3, [.ref 36, .int 0, .int 0])), (35, .inl (0, 40, [])), (9, .inr (3, [.ref 35, .int 0, .int 0])), (34, .inl (0, 40, [])), (8, .inr (3, [.ref 34, .int 0, .int 0])), (7, .inl (4, 4, [some 8, some 9, some 10, none])), (33, .inl (1, 100, [])), (32, .inl (1, 100, [])), (31, .inl (0, 600, [])), (30, .inl (0, 100, [])), (29, .inl (0, 100, [])), (28, .inl (0, 100, [])), (27, .inl (0, 100, [])), (6, .inr (0, [.ref 27, .ref 28, .ref 29, .ref 30, .ref 31, .ref 32, .ref 33, .int 0])), (26, .inl (0, 6, [])), (5, .inr (4, [.ref 3, .ref 26, .int 0, .int 0])), (25, .inl (0, 160, [])), (4, .inr (1, [.ref 3, .ref 25, .int 0, .int 0, .int 0, .int 0, .int 0, .int 0])), (24, .inl (0, 160, [])), (23, .inl (0, 18, [])), (22, .inl (0, 960, [])), (3, .inr (5, [.ref 22, .ref 23, .ref 24, .int 0, .int 0])), (21, .inl (0, 5, [])), (20, .inl (0, 5, [])), (19, .inl (0, 5, [])), (18, .inl (0, 5, [])), (17, .inl (0, 40, [])), (2, .inr (2, [.ref 17, .ref 18, .ref 19, .ref 20, .ref 21, .int 0, .int 0, .int 0])), (16, .inl (0, 5, [])), (15, .inl (0, 5, [])), (14, .inl (0, 5, [])), (13, .inl (0, 5, [])), (12, .inl (0, 40, [])), (1, .inr (2, [.ref 12, .ref 13, .ref 14, .ref 15, .ref 16, .int 0, .int 0, .int 0])), (0, .inr (6, [.ref 1, .ref 2, .int 0, .ref 3, .ref 4, .ref 5, .ref 6, .null]))]) rfl ?_
  refine k_dup C dX6_init_113 ?_
  refine k_iconst (v := nI 3) C dX6_init_114 rfl ?_
  refine k_new (k := 11) C dX6_init_115 nw_X6_49 rfl (q11.trans (by omega)) (by decide) (by decide) ?_
  refine k_dup C dX6_init_118 ?_
  refine k_initN (M' := mm_X3_init) (mc := 1) (ms := 40) (as := []) C dX6_init_119 n4 iw_X3 ok_X3_init rfl rfl rfl rfl (Nat.le_of_ble_eq_true rfl) (nRm_of rfl rfl (by decide) (by decide) (by decide) (by decide)) (nb_X3 (k := 11) (a0 := 37) (fun q hq => by simp at hq; subst hq; rfl) (q37.trans (by omega))) ?_
  refine k_aast (i := 8) (iv := 1) C dX6_init_122 rfl (by decide) (by decide) (by decide) rfl ?_
  refine nG_ns (ns' := [(37, .inl (0, 40, [])), (11, .inr (3, [.ref 37, .int 0, .int 0])), (36, .inl (0, 40, [])), (10, .inr (3, [.ref 36, .int 0, .int 0])), (35, .inl (0, 40, [])), (9, .inr (3, [.ref 35, .int 0, .int 0])), (34, .inl (0, 40, [])), (8, .inr (3, [.ref 34, .int 0, .int 0])), (7, .inl (4, 4, [some 8, some 9, some 10, some 11])), (33, .inl (1, 100, [])), (32, .inl (1, 100, [])), (31, .inl (0, 600, [])), (30, .inl (0, 100, [])), (29, .inl (0, 100, [])), (28, .inl (0, 100, [])), (27, .inl (0, 100, [])), (6, .inr (0, [.ref 27, .ref 28, .ref 29, .ref 30, .ref 31, .ref 32, .ref 33, .int 0])), (26, .inl (0, 6, [])), (5, .inr (4, [.ref 3, .ref 26, .int 0, .int 0])), (25, .inl (0, 160, [])), (4, .inr (1, [.ref 3, .ref 25, .int 0, .int 0, .int 0, .int 0, .int 0, .int 0])), (24, .inl (0, 160, [])), (23, .inl (0, 18, [])), (22, .inl (0, 960, [])), (3, .inr (5, [.ref 22, .ref 23, .ref 24, .int 0, .int 0])), (21, .inl (0, 5, [])), (20, .inl (0, 5, [])), (19, .inl (0, 5, [])), (18, .inl (0, 5, [])), (17, .inl (0, 40, [])), (2, .inr (2, [.ref 17, .ref 18, .ref 19, .ref 20, .ref 21, .int 0, .int 0, .int 0])), (16, .inl (0, 5, [])), (15, .inl (0, 5, [])), (14, .inl (0, 5, [])), (13, .inl (0, 5, [])), (12, .inl (0, 40, [])), (1, .inr (2, [.ref 12, .ref 13, .ref 14, .ref 15, .ref 16, .int 0, .int 0, .int 0])), (0, .inr (6, [.ref 1, .ref 2, .int 0, .ref 3, .ref 4, .ref 5, .ref 6, .null]))]) rfl ?_
  refine k_put (i := 37) C dX6_init_123 rfl fl_X6_52 ff_6_7 (fun _ => rfl) (fun _ => rfl) rfl (Nat.le_of_ble_eq_true rfl) rfl ?_
  refine nG_ns (ns' := [(37, .inl (0, 40, [])), (11, .inr (3, [.ref 37, .int 0, .int 0])), (36, .inl (0, 40, [])), (10, .inr (3, [.ref 36, .int 0, .int 0])), (35, .inl (0, 40, [])), (9, .inr (3, [.ref 35, .int 0, .int 0])), (34, .inl (0, 40, [])), (8, .inr (3, [.ref 34, .int 0, .int 0])), (7, .inl (4, 4, [some 8, some 9, some 10, some 11])), (33, .inl (1, 100, [])), (32, .inl (1, 100, [])), (31, .inl (0, 600, [])), (30, .inl (0, 100, [])), (29, .inl (0, 100, [])), (28, .inl (0, 100, [])), (27, .inl (0, 100, [])), (6, .inr (0, [.ref 27, .ref 28, .ref 29, .ref 30, .ref 31, .ref 32, .ref 33, .int 0])), (26, .inl (0, 6, [])), (5, .inr (4, [.ref 3, .ref 26, .int 0, .int 0])), (25, .inl (0, 160, [])), (4, .inr (1, [.ref 3, .ref 25, .int 0, .int 0, .int 0, .int 0, .int 0, .int 0])), (24, .inl (0, 160, [])), (23, .inl (0, 18, [])), (22, .inl (0, 960, [])), (3, .inr (5, [.ref 22, .ref 23, .ref 24, .int 0, .int 0])), (21, .inl (0, 5, [])), (20, .inl (0, 5, [])), (19, .inl (0, 5, [])), (18, .inl (0, 5, [])), (17, .inl (0, 40, [])), (2, .inr (2, [.ref 17, .ref 18, .ref 19, .ref 20, .ref 21, .int 0, .int 0, .int 0])), (16, .inl (0, 5, [])), (15, .inl (0, 5, [])), (14, .inl (0, 5, [])), (13, .inl (0, 5, [])), (12, .inl (0, 40, [])), (1, .inr (2, [.ref 12, .ref 13, .ref 14, .ref 15, .ref 16, .int 0, .int 0, .int 0])), (0, .inr (6, [.ref 1, .ref 2, .int 0, .ref 3, .ref 4, .ref 5, .ref 6, .ref 7]))]) rfl ?_
  intro H locs ls hP hD hz hS hl
  refine x6_tail (A := (s2 (s2 (s2 (s2 zA 8 1 (-1)) 9 1 (-1)) 10 1 (-1)) 11 1 (-1))) (L := zL) (kc := 37) (ks := 2841) C.1 hw ⟨[], by rw [hE, List.append_nil]⟩ (by unfold gRm; decide) ⟨rfl, rfl, rfl, rfl, rfl, fun s hs => ?_⟩ H locs ls ?_ hS hl
  · rcases (show s = 0 ∨ s = 1 ∨ s = 2 ∨ s = 3 by omega) with rfl | rfl | rfl | rfl <;> exact ⟨rfl, rfl, rfl⟩
  · have e1 : mws E (s2 (s2 (s2 (s2 zA 8 1 (-1)) 9 1 (-1)) 10 1 (-1)) 11 1 (-1)) zL = mwf E (s2 (s2 (s2 (s2 zA 8 1 (-1)) 9 1 (-1)) 10 1 (-1)) 11 1 (-1)) zL 0 mLc := by unfold mws; rw [hE]
    rw [e1]
    exact hP.sub [37, 36, 30, 24, 20, 18, 16, 8, 7, 5, 3, 1, 35, 34, 33, 32, 31, 29, 28, 27, 26, 25, 23, 22, 21, 19, 17, 15, 14, 13, 12, 11, 10, 9, 6, 4, 2, 0] rfl
