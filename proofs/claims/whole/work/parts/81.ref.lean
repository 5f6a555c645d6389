/-! THE REFERENCE'S CONSTRUCTOR -/
def ftA (A : mA) : mA := (s2 (s2 (s2 (s2 (s2 (s2 (s2 (s2 (s2 (s2 (s2 (s2 (s2 (s2 (s2 (s2 (s2 A 58 0 (5)) 58 1 (-10)) 58 2 (3)) 58 3 (-27)) 58 4 (-25)) 58 5 (2)) 58 6 (-11)) 42 0 (5)) 42 1 (-10)) 42 2 (3)) 42 3 (-27)) 42 4 (-25)) 42 5 (2)) 42 6 (-11)) 43 0 (5)) 43 1 (6)) 43 2 (7))
def ftR : Room := { frames := 0, cells := 1, slots := 7, locals := 0 }
set_option maxRecDepth 100000 in
theorem nb_ft {E : mE} {A : mA} {L : mJ} {ns : List (Nat × mK)} {z : Nat} (hz : mad E 58 = z + 0) (hA : A 58 = fun _ => 0) : nC E mm_X7_firstText ftR 1 7 [.ref 38] A L ((43, .inl (0, 18, [])) :: (42, .inl (0, 960, [])) :: (41, .inl (0, 160, [])) :: (40, .inl (0, 63, [])) :: (39, .inl (0, 63, [])) :: (38, .inr (7, [.ref 39, .ref 40, .int 0, .ref 41, .int 0, .int 0, .int 0, .int 0, .int 0, .ref 42, .ref 43, .int 0, .int 0, .null, .null, .int 0, .null, .int 0, .int 0, .int 0, .int 0, .null, .null, .null, .null, .null, .null, .null, .null, .null, .null, .null])) :: ns) z (some (.int 1)) (ftA A) ((58, .inl (0, 7, [])) :: (43, .inl (0, 18, [])) :: (42, .inl (0, 960, [])) :: (41, .inl (0, 160, [])) :: (40, .inl (0, 63, [])) :: (39, .inl (0, 63, [])) :: (38, .inr (7, [.ref 39, .ref 40, .int 0, .ref 41, .int 0, .int 0, .int 0, .int 0, .int 0, .ref 42, .ref 43, .int 0, .int 0, .null, .null, .int 0, .null, .int 0, .int 0, .int 0, .int 0, .null, .null, .null, .null, .null, .null, .null, .null, .null, .null, .null])) :: ns) := by
  refine nC.enter (by decide) (Nat.le_of_ble_eq_true rfl) (fun p l e s m args below meth c C => ?_)
  refine k_bipush (v := nI 7) C dX7_firstText_0 rfl ?_
  refine k_newI (k := 58) C dX7_firstText_2 aw_int (by decide) hA hz (by decide) (by decide) ?_
  refine k_dup C dX7_firstText_4 ?_
  refine k_iconst (v := nI 0) C dX7_firstText_5 rfl ?_
  refine k_iconst (v := 5) C dX7_firstText_6 rfl ?_
  refine k_iast (i := 0) C dX7_firstText_7 rfl (by decide) (by decide) ?_
  refine k_dup C dX7_firstText_8 ?_
  refine k_iconst (v := nI 1) C dX7_firstText_9 rfl ?_
  refine k_bipush (v := -10) C dX7_firstText_10 rfl ?_
  refine k_iast (i := 0) C dX7_firstText_12 rfl (by decide) (by decide) ?_
  refine k_dup C dX7_firstText_13 ?_
  refine k_iconst (v := nI 2) C dX7_firstText_14 rfl ?_
  refine k_iconst (v := 3) C dX7_firstText_15 rfl ?_
  refine k_iast (i := 0) C dX7_firstText_16 rfl (by decide) (by decide) ?_
  refine k_dup C dX7_firstText_17 ?_
  refine k_iconst (v := nI 3) C dX7_firstText_18 rfl ?_
  refine k_bipush (v := -27) C dX7_firstText_19 rfl ?_
  refine k_iast (i := 0) C dX7_firstText_21 rfl (by decide) (by decide) ?_
  refine k_dup C dX7_firstText_22 ?_
  refine k_iconst (v := nI 4) C dX7_firstText_23 rfl ?_
  refine k_bipush (v := -25) C dX7_firstText_24 rfl ?_
  refine k_iast (i := 0) C dX7_firstText_26 rfl (by decide) (by decide) ?_
  refine k_dup C dX7_firstText_27 ?_
  refine k_iconst (v := nI 5) C dX7_firstText_28 rfl ?_
  refine k_iconst (v := 2) C dX7_firstText_29 rfl ?_
  refine k_iast (i := 0) C dX7_firstText_30 rfl (by decide) (by decide) ?_
  refine k_dup C dX7_firstText_31 ?_
  refine k_bipush (v := nI 6) C dX7_firstText_32 rfl ?_
  refine k_bipush (v := -11) C dX7_firstText_34 rfl ?_
  refine k_iast (i := 0) C dX7_firstText_36 rfl (by decide) (by decide) ?_
  refine k_astore (loc' := [(1, .ref 58), (0, .ref 38)]) C dX7_firstText_37 (by decide) rfl ?_
  refine k_iconst (v := nI 0) C dX7_firstText_38 rfl ?_
  refine k_istore (loc' := [(2, .int (nI 0)), (1, .ref 58), (0, .ref 38)]) C dX7_firstText_39 (by decide) rfl ?_
  refine k_iload C dX7_firstText_40 rfl ?_
  refine k_bipush (v := 7) C dX7_firstText_41 rfl ?_
  refine k_ge (tgt := 61) C dX7_firstText_43 (by decide) (fun y => absurd y (by decide)) (fun _ => ?_)
  refine k_aload C dX7_firstText_46 rfl ?_
  refine k_getR (i := 6) C dX7_firstText_47 fl_X7_19 rfl rfl ?_
  refine k_iload C dX7_firstText_50 rfl ?_
  refine k_aload C dX7_firstText_51 rfl ?_
  refine k_iload C dX7_firstText_52 rfl ?_
  refine k_iald (i := 0) (v := 5) C dX7_firstText_53 rfl (by decide) (by decide) rfl ?_
  refine k_iast (i := 2) C dX7_firstText_54 rfl (by decide) (by decide) ?_
  refine k_iinc (v := nI 1) (loc' := [(2, .int (nI 1)), (1, .ref 58), (0, .ref 38)]) C dX7_firstText_55 rfl (by decide) (by decide) rfl ?_
  refine k_goto (tgt := 40) C dX7_firstText_58 (by decide) ?_
  refine k_iload C dX7_firstText_40 rfl ?_
  refine k_bipush (v := 7) C dX7_firstText_41 rfl ?_
  refine k_ge (tgt := 61) C dX7_firstText_43 (by decide) (fun y => absurd y (by decide)) (fun _ => ?_)
  refine k_aload C dX7_firstText_46 rfl ?_
  refine k_getR (i := 6) C dX7_firstText_47 fl_X7_19 rfl rfl ?_
  refine k_iload C dX7_firstText_50 rfl ?_
  refine k_aload C dX7_firstText_51 rfl ?_
  refine k_iload C dX7_firstText_52 rfl ?_
  refine k_iald (i := 0) (v := -10) C dX7_firstText_53 rfl (by decide) (by decide) rfl ?_
  refine k_iast (i := 2) C dX7_firstText_54 rfl (by decide) (by decide) ?_
  refine k_iinc (v := nI 2) (loc' := [(2, .int (nI 2)), (1, .ref 58), (0, .ref 38)]) C dX7_firstText_55 rfl (by decide) (by decide) rfl ?_
  refine k_goto (tgt := 40) C dX7_firstText_58 (by decide) ?_
  refine k_iload C dX7_firstText_40 rfl ?_
  refine k_bipush (v := 7) C dX7_firstText_41 rfl ?_
  refine k_ge (tgt := 61) C dX7_firstText_43 (by decide) (fun y => absurd y (by decide)) (fun _ => ?_)
  refine k_aload C dX7_firstText_46 rfl ?_
  refine k_getR (i := 6) C dX7_firstText_47 fl_X7_19 rfl rfl ?_
  refine k_iload C dX7_firstText_50 rfl ?_
  refine k_aload C dX7_firstText_51 rfl ?_
  refine k_iload C dX7_firstText_52 rfl ?_
  refine k_iald (i := 0) (v := 3) C dX7_firstText_53 rfl (by decide) (by decide) rfl ?_
  refine k_iast (i := 2) C dX7_firstText_54 rfl (by decide) (by decide) ?_
  refine k_iinc (v := nI 3) (loc' := [(2, .int (nI 3)), (1, .ref 58), (0, .ref 38)]) C dX7_firstText_55 rfl (by decide) (by decide) rfl ?_
  refine k_goto (tgt := 40) C dX7_firstText_58 (by decide) ?_
  refine k_iload C dX7_firstText_40 rfl ?_
  refine k_bipush (v := 7) C dX7_firstText_41 rfl ?_
  refine k_ge (tgt := 61) C dX7_firstText_43 (by decide) (fun y => absurd y (by decide)) (fun _ => ?_)
  refine k_aload C dX7_firstText_46 rfl ?_
  refine k_getR (i := 6) C dX7_firstText_47 fl_X7_19 rfl rfl ?_
  refine k_iload C dX7_firstText_50 rfl ?_
  refine k_aload C dX7_firstText_51 rfl ?_
  refine k_iload C dX7_firstText_52 rfl ?_
  refine k_iald (i := 0) (v := -27) C dX7_firstText_53 rfl (by decide) (by decide) rfl ?_
  refine k_iast (i := 2) C dX7_firstText_54 rfl (by decide) (by decide) ?_
  refine k_iinc (v := nI 4) (loc' := [(2, .int (nI 4)), (1, .ref 58), (0, .ref 38)]) C dX7_firstText_55 rfl (by decide) (by decide) rfl ?_
  refine k_goto (tgt := 40) C dX7_firstText_58 (by decide) ?_
  refine k_iload C dX7_firstText_40 rfl ?_
  refine k_bipush (v := 7) C dX7_firstText_41 rfl ?_
  refine k_ge (tgt := 61) C dX7_firstText_43 (by decide) (fun y => absurd y (by decide)) (fun _ => ?_)
  refine k_aload C dX7_firstText_46 rfl ?_
  refine k_getR (i := 6) C dX7_firstText_47 fl_X7_19 rfl rfl ?_
  refine k_iload C dX7_firstText_50 rfl ?_
  refine k_aload C dX7_firstText_51 rfl ?_
  refine k_iload C dX7_firstText_52 rfl ?_
  refine k_iald (i := 0) (v := -25) C dX7_firstText_53 rfl (by decide) (by decide) rfl ?_
  refine k_iast (i := 2) C dX7_firstText_54 rfl (by decide) (by decide) ?_
  refine k_iinc (v := nI 5) (loc' := [(2, .int (nI 5)), (1, .ref 58), (0, .ref 38)]) C dX7_firstText_55 rfl (by decide) (by decide) rfl ?_
  refine k_goto (tgt := 40) C dX7_firstText_58 (by decide) ?_
  refine k_iload C dX7_firstText_40 rfl ?_
  refine k_bipush (v := 7) C dX7_firstText_41 rfl ?_
  refine k_ge (tgt := 61) C dX7_firstText_43 (by decide) (fun y => absurd y (by decide)) (fun _ => ?_)
  refine k_aload C dX7_firstText_46 rfl ?_
  refine k_getR (i := 6) C dX7_firstText_47 fl_X7_19 rfl rfl ?_
  refine k_iload C dX7_firstText_50 rfl ?_
  refine k_aload C dX7_firstText_51 rfl ?_
  refine k_iload C dX7_firstText_52 rfl ?_
  refine k_iald (i := 0) (v := 2) C dX7_firstText_53 rfl (by decide) (by decide) rfl ?_
  refine k_iast (i := 2) C dX7_firstText_54 rfl (by decide) (by decide) ?_
  refine k_iinc (v := nI 6) (loc' := [(2, .int (nI 6)), (1, .ref 58), (0, .ref 38)]) C dX7_firstText_55 rfl (by decide) (by decide) rfl ?_
  refine k_goto (tgt := 40) C dX7_firstText_58 (by decide) ?_
  refine k_iload C dX7_firstText_40 rfl ?_
  refine k_bipush (v := 7) C dX7_firstText_41 rfl ?_
  refine k_ge (tgt := 61) C dX7_firstText_43 (by decide) (fun y => absurd y (by decide)) (fun _ => ?_)
  refine k_aload C dX7_firstText_46 rfl ?_
  refine k_getR (i := 6) C dX7_firstText_47 fl_X7_19 rfl rfl ?_
  refine k_iload C dX7_firstText_50 rfl ?_
  refine k_aload C dX7_firstText_51 rfl ?_
  refine k_iload C dX7_firstText_52 rfl ?_
  refine k_iald (i := 0) (v := -11) C dX7_firstText_53 rfl (by decide) (by decide) rfl ?_
  refine k_iast (i := 2) C dX7_firstText_54 rfl (by decide) (by decide) ?_
  refine k_iinc (v := nI 7) (loc' := [(2, .int (nI 7)), (1, .ref 58), (0, .ref 38)]) C dX7_firstText_55 rfl (by decide) (by decide) rfl ?_
  refine k_goto (tgt := 40) C dX7_firstText_58 (by decide) ?_
  refine k_iload C dX7_firstText_40 rfl ?_
  refine k_bipush (v := 7) C dX7_firstText_41 rfl ?_
  refine k_ge (tgt := 61) C dX7_firstText_43 (by decide) (fun _ => ?_) (fun y => absurd (by decide) y)
  refine k_aload C dX7_firstText_61 rfl ?_
  refine k_getR (i := 6) C dX7_firstText_62 fl_X7_22 rfl rfl ?_
  refine k_iconst (v := nI 0) C dX7_firstText_65 rfl ?_
  refine k_iconst (v := 5) C dX7_firstText_66 rfl ?_
  refine k_iast (i := 1) C dX7_firstText_67 rfl (by decide) (by decide) ?_
  refine k_aload C dX7_firstText_68 rfl ?_
  refine k_getR (i := 6) C dX7_firstText_69 fl_X7_22 rfl rfl ?_
  refine k_iconst (v := nI 1) C dX7_firstText_72 rfl ?_
  refine k_bipush (v := 6) C dX7_firstText_73 rfl ?_
  refine k_iast (i := 1) C dX7_firstText_75 rfl (by decide) (by decide) ?_
  refine k_aload C dX7_firstText_76 rfl ?_
  refine k_getR (i := 6) C dX7_firstText_77 fl_X7_22 rfl rfl ?_
  refine k_iconst (v := nI 2) C dX7_firstText_80 rfl ?_
  refine k_bipush (v := 7) C dX7_firstText_81 rfl ?_
  refine k_iast (i := 1) C dX7_firstText_83 rfl (by decide) (by decide) ?_
  refine k_iconst (v := 1) C dX7_firstText_84 rfl ?_
  exact k_iret C dX7_firstText_85 rfl rfl rfl rfl
def mix (A : mA) : mA := fun k => if k < 38 then A k else fun _ => 0
def mixL (L : mJ) : mJ := fun k => if k < 38 then L k else fun _ => 0
def offM : List Nat := [0, 1, 2, 3, 4, 5, 7, 8, 9, 10, 11, 12, 13, 14, 15, 16, 17, 18, 19, 20, 6]
def A7 (A : mA) : mA := (s2 (s2 (s2 (s2 (s2 (s2 (s2 (s2 (s2 (s2 (s2 (s2 (s2 (s2 (s2 (s2 (s2 (s2 (s2 (s2 (s2 (s2 (s2 (s2 (s2 (s2 (s2 (s2 (s2 (s2 (s2 (s2 (s2 (s2 (s2 (s2 (s2 (s2 (s2 (s2 (s2 (s2 (s2 (s2 (s2 (s2 (s2 (s2 (s2 (s2 (s2 (s2 (s2 (s2 (s2 (s2 (s2 (s2 (s2 (s2 (s2 (s2 (s2 (s2 (s2 (s2 (s2 (s2 (s2 (s2 (s2 (s2 (s2 (s2 (s2 (s2 (s2 (s2 (s2 (s2 (s2 (s2 (s2 (ftA (mix A)) 38 11 1) 44 0 (119)) 44 1 (111)) 44 2 (114)) 44 3 (100)) 44 4 (0)) 44 5 (0)) 44 6 (97)) 44 7 (110)) 44 8 (103)) 44 9 (101)) 44 10 (114)) 44 11 (0)) 44 12 (110)) 44 13 (117)) 44 14 (109)) 44 15 (98)) 44 16 (101)) 44 17 (114)) 44 18 (104)) 44 19 (111)) 44 20 (117)) 44 21 (114)) 44 22 (0)) 44 23 (0)) 44 24 (116)) 44 25 (104)) 44 26 (105)) 44 27 (110)) 44 28 (103)) 44 29 (115)) 44 30 (98)) 44 31 (101)) 44 32 (110)) 44 33 (99)) 44 34 (104)) 44 35 (0)) 44 36 (104)) 44 37 (101)) 44 38 (97)) 44 39 (116)) 44 40 (115)) 44 41 (0)) 44 42 (99)) 44 43 (111)) 44 44 (111)) 44 45 (108)) 44 46 (115)) 44 47 (0)) 44 48 (102)) 44 49 (97)) 44 50 (114)) 44 51 (0)) 44 52 (0)) 44 53 (0)) 44 54 (111)) 44 55 (114)) 44 56 (0)) 44 57 (0)) 44 58 (0)) 44 59 (0)) 44 60 (97)) 44 61 (110)) 44 62 (100)) 44 63 (0)) 44 64 (0)) 44 65 (0)) 44 66 (110)) 44 67 (111)) 44 68 (116)) 44 69 (0)) 44 70 (0)) 44 71 (0)) 53 0 (-1)) 53 1 (-1)) 53 2 (-1)) 53 3 (-1)) 57 0 (-1)) 57 1 (0)) 57 2 (0)) 57 3 (1)) 57 4 (2)) 57 5 (0))
def R7 : Room := { frames := 2, cells := 20, slots := 2977, locals := 100 }
def n7 (ns : List (Nat × mK)) : List (Nat × mK) := (57, .inl (0, 6, [])) :: (56, .inl (0, 40, [])) :: (55, .inl (0, 160, [])) :: (54, .inl (0, 4, [])) :: (53, .inl (0, 4, [])) :: (52, .inl (1, 100, [])) :: (51, .inl (1, 100, [])) :: (50, .inl (3, 100, [])) :: (49, .inl (0, 100, [])) :: (48, .inl (0, 100, [])) :: (47, .inl (0, 600, [])) :: (46, .inl (0, 160, [])) :: (45, .inl (0, 160, [])) :: (44, .inl (2, 72, [])) :: (58, .inl (0, 7, [])) :: (43, .inl (0, 18, [])) :: (42, .inl (0, 960, [])) :: (41, .inl (0, 160, [])) :: (40, .inl (0, 63, [])) :: (39, .inl (0, 63, [])) :: (38, .inr (7, [.ref 39, .ref 40, .int 0, .ref 41, .int 0, .int 0, .int 0, .int 0, .int 0, .ref 42, .ref 43, .int 0, .int 0, .ref 44, .ref 45, .int 0, .ref 46, .int 0, .int 0, .int 0, .int 0, .ref 47, .ref 48, .ref 49, .ref 50, .ref 51, .ref 52, .ref 53, .ref 54, .ref 55, .ref 56, .ref 57])) :: ns
set_option maxRecDepth 100000 in
set_option maxHeartbeats 4000000 in
theorem nb_X7 {E : mE} {A : mA} {L : mJ} {ns : List (Nat × mK)} {h : Nat} (hm : ∀ k, 38 ≤ k ∧ k < 59 → mad E k = h + offM.getD (k - 38) 0) : nC E mm_X7_init R7 20 2977 [.ref 38] (mix A) (mixL L) ((38, .inr (7, [.null, .null, .int 0, .null, .int 0, .int 0, .int 0, .int 0, .int 0, .null, .null, .int 0, .int 0, .null, .null, .int 0, .null, .int 0, .int 0, .int 0, .int 0, .null, .null, .null, .null, .null, .null, .null, .null, .null, .null, .null])) :: ns) (h + 1) none (A7 A) (n7 ns) := by
  have q38 : mad E 38 = h + 0 := hm 38 (by decide)
  have q39 : mad E 39 = h + 1 := hm 39 (by decide)
  have q40 : mad E 40 = h + 2 := hm 40 (by decide)
  have q41 : mad E 41 = h + 3 := hm 41 (by decide)
  have q42 : mad E 42 = h + 4 := hm 42 (by decide)
  have q43 : mad E 43 = h + 5 := hm 43 (by decide)
  have q44 : mad E 44 = h + 7 := hm 44 (by decide)
  have q45 : mad E 45 = h + 8 := hm 45 (by decide)
  have q46 : mad E 46 = h + 9 := hm 46 (by decide)
  have q47 : mad E 47 = h + 10 := hm 47 (by decide)
  have q48 : mad E 48 = h + 11 := hm 48 (by decide)
  have q49 : mad E 49 = h + 12 := hm 49 (by decide)
  have q50 : mad E 50 = h + 13 := hm 50 (by decide)
  have q51 : mad E 51 = h + 14 := hm 51 (by decide)
  have q52 : mad E 52 = h + 15 := hm 52 (by decide)
  have q53 : mad E 53 = h + 16 := hm 53 (by decide)
  have q54 : mad E 54 = h + 17 := hm 54 (by decide)
  have q55 : mad E 55 = h + 18 := hm 55 (by decide)
  have q56 : mad E 56 = h + 19 := hm 56 (by decide)
  have q57 : mad E 57 = h + 20 := hm 57 (by decide)
  have q58 : mad E 58 = h + 6 := hm 58 (by decide)
  refine nC.enter (by decide) (Nat.le_of_ble_eq_true rfl) (fun p l e s m args below meth c C => ?_)
  refine k_aload C dX7_init_0 rfl ?_
  refine k_obj C dX7_init_1 ob_X7 ob_i ob_c (by decide) (by decide) ?_
  refine k_aload C dX7_init_4 rfl ?_
  refine k_bipush (v := nI 63) C dX7_init_5 rfl ?_
  refine k_newI (k := 39) C dX7_init_7 aw_int (by decide) rfl (q39.trans (by omega)) (by decide) (by decide) ?_
  refine k_put (i := 1) C dX7_init_9 rfl fl_X7_7 ff_7_0 (fun _ => rfl) (fun _ => rfl) rfl (Nat.le_of_ble_eq_true rfl) rfl ?_
  refine nG_ns (ns' := (39, .inl (0, 63, [])) :: (38, .inr (7, [.ref 39, .null, .int 0, .null, .int 0, .int 0, .int 0, .int 0, .int 0, .null, .null, .int 0, .int 0, .null, .null, .int 0, .null, .int 0, .int 0, .int 0, .int 0, .null, .null, .null, .null, .null, .null, .null, .null, .null, .null, .null])) :: ns) rfl ?_
  refine k_aload C dX7_init_12 rfl ?_
  refine k_bipush (v := nI 63) C dX7_init_13 rfl ?_
  refine k_newI (k := 40) C dX7_init_15 aw_int (by decide) rfl (q40.trans (by omega)) (by decide) (by decide) ?_
  refine k_put (i := 2) C dX7_init_17 rfl fl_X7_13 ff_7_1 (fun _ => rfl) (fun _ => rfl) rfl (Nat.le_of_ble_eq_true rfl) rfl ?_
  refine nG_ns (ns' := (40, .inl (0, 63, [])) :: (39, .inl (0, 63, [])) :: (38, .inr (7, [.ref 39, .ref 40, .int 0, .null, .int 0, .int 0, .int 0, .int 0, .int 0, .null, .null, .int 0, .int 0, .null, .null, .int 0, .null, .int 0, .int 0, .int 0, .int 0, .null, .null, .null, .null, .null, .null, .null, .null, .null, .null, .null])) :: ns) rfl ?_
  refine k_aload C dX7_init_20 rfl ?_
  refine k_sipush (v := nI 160) C dX7_init_21 rfl ?_
  refine k_newI (k := 41) C dX7_init_24 aw_int (by decide) rfl (q41.trans (by omega)) (by decide) (by decide) ?_
  refine k_put (i := 3) C dX7_init_26 rfl fl_X7_16 ff_7_3 (fun _ => rfl) (fun _ => rfl) rfl (Nat.le_of_ble_eq_true rfl) rfl ?_
  refine nG_ns (ns' := (41, .inl (0, 160, [])) :: (40, .inl (0, 63, [])) :: (39, .inl (0, 63, [])) :: (38, .inr (7, [.ref 39, .ref 40, .int 0, .ref 41, .int 0, .int 0, .int 0, .int 0, .int 0, .null, .null, .int 0, .int 0, .null, .null, .int 0, .null, .int 0, .int 0, .int 0, .int 0, .null, .null, .null, .null, .null, .null, .null, .null, .null, .null, .null])) :: ns) rfl ?_
  refine k_aload C dX7_init_29 rfl ?_
  refine k_sipush (v := nI 960) C dX7_init_30 rfl ?_
  refine k_newI (k := 42) C dX7_init_33 aw_int (by decide) rfl (q42.trans (by omega)) (by decide) (by decide) ?_
  refine k_put (i := 4) C dX7_init_35 rfl fl_X7_19 ff_7_9 (fun _ => rfl) (fun _ => rfl) rfl (Nat.le_of_ble_eq_true rfl) rfl ?_
  refine nG_ns (ns' := (42, .inl (0, 960, [])) :: (41, .inl (0, 160, [])) :: (40, .inl (0, 63, [])) :: (39, .inl (0, 63, [])) :: (38, .inr (7, [.ref 39, .ref 40, .int 0, .ref 41, .int 0, .int 0, .int 0, .int 0, .int 0, .ref 42, .null, .int 0, .int 0, .null, .null, .int 0, .null, .int 0, .int 0, .int 0, .int 0, .null, .null, .null, .null, .null, .null, .null, .null, .null, .null, .null])) :: ns) rfl ?_
  refine k_aload C dX7_init_38 rfl ?_
  refine k_bipush (v := nI 18) C dX7_init_39 rfl ?_
  refine k_newI (k := 43) C dX7_init_41 aw_int (by decide) rfl (q43.trans (by omega)) (by decide) (by decide) ?_
  refine k_put (i := 5) C dX7_init_43 rfl fl_X7_22 ff_7_10 (fun _ => rfl) (fun _ => rfl) rfl (Nat.le_of_ble_eq_true rfl) rfl ?_
  refine nG_ns (ns' := (43, .inl (0, 18, [])) :: (42, .inl (0, 960, [])) :: (41, .inl (0, 160, [])) :: (40, .inl (0, 63, [])) :: (39, .inl (0, 63, [])) :: (38, .inr (7, [.ref 39, .ref 40, .int 0, .ref 41, .int 0, .int 0, .int 0, .int 0, .int 0, .ref 42, .ref 43, .int 0, .int 0, .null, .null, .int 0, .null, .int 0, .int 0, .int 0, .int 0, .null, .null, .null, .null, .null, .null, .null, .null, .null, .null, .null])) :: ns) rfl ?_
  refine k_aload C dX7_init_46 rfl ?_
  refine k_aload C dX7_init_47 rfl ?_
  refine k_callV (M' := mm_X7_firstText) (mc := 1) (ms := 7) (i := 5) (as := []) C dX7_init_48 lk_X7_25 rfl rfl rfl rfl (Nat.le_of_ble_eq_true rfl) (nRm_of rfl rfl (by decide) (by decide) (by decide) (by decide)) (nb_ft (q58.trans (by omega)) rfl) ?_
  refine k_putI (i := 6) C dX7_init_51 fl_X7_29 fp_7_11 rfl rfl ?_
  refine k_aload C dX7_init_54 rfl ?_
  refine k_bipush (v := nI 72) C dX7_init_55 rfl ?_
  refine k_newC (k := 44) C dX7_init_57 aw_char (by decide) rfl (q44.trans (by omega)) (by decide) (by decide) ?_
  refine k_dup C dX7_init_59 ?_
  refine k_iconst (v := nI 0) C dX7_init_60 rfl ?_
  refine k_bipush (v := 119) C dX7_init_61 rfl ?_
  refine k_cast (i := 0) C dX7_init_63 rfl (by decide) (by decide) rfl ?_
  refine k_dup C dX7_init_64 ?_
  refine k_iconst (v := nI 1) C dX7_init_65 rfl ?_
  refine k_bipush (v := 111) C dX7_init_66 rfl ?_
  refine k_cast (i := 0) C dX7_init_68 rfl (by decide) (by decide) rfl ?_
  refine k_dup C dX7_init_69 ?_
  refine k_iconst (v := nI 2) C dX7_init_70 rfl ?_
  refine k_bipush (v := 114) C dX7_init_71 rfl ?_
  refine k_cast (i := 0) C dX7_init_73 rfl (by decide) (by decide) rfl ?_
  refine k_dup C dX7_init_74 ?_
  refine k_iconst (v := nI 3) C dX7_init_75 rfl ?_
  refine k_bipush (v := 100) C dX7_init_76 rfl ?_
  refine k_cast (i := 0) C dX7_init_78 rfl (by decide) (by decide) rfl ?_
  refine k_dup C dX7_init_79 ?_
  refine k_iconst (v := nI 4) C dX7_init_80 rfl ?_
  refine k_iconst (v := 0) C dX7_init_81 rfl ?_
  refine k_cast (i := 0) C dX7_init_82 rfl (by decide) (by decide) rfl ?_
  refine k_dup C dX7_init_83 ?_
  refine k_iconst (v := nI 5) C dX7_init_84 rfl ?_
  refine k_iconst (v := 0) C dX7_init_85 rfl ?_
  refine k_cast (i := 0) C dX7_init_86 rfl (by decide) (by decide) rfl ?_
  refine k_dup C dX7_init_87 ?_
  refine k_bipush (v := nI 6) C dX7_init_88 rfl ?_
  refine k_bipush (v := 97) C dX7_init_90 rfl ?_
  refine k_cast (i := 0) C dX7_init_92 rfl (by decide) (by decide) rfl ?_
  refine k_dup C dX7_init_93 ?_
  refine k_bipush (v := nI 7) C dX7_init_94 rfl ?_
  refine k_bipush (v := 110) C dX7_init_96 rfl ?_
  refine k_cast (i := 0) C dX7_init_98 rfl (by decide) (by decide) rfl ?_
  refine k_dup C dX7_init_99 ?_
  refine k_bipush (v := nI 8) C dX7_init_100 rfl ?_
  refine k_bipush (v := 103) C dX7_init_102 rfl ?_
  refine k_cast (i := 0) C dX7_init_104 rfl (by decide) (by decide) rfl ?_
  refine k_dup C dX7_init_105 ?_
  refine k_bipush (v := nI 9) C dX7_init_106 rfl ?_
  refine k_bipush (v := 101) C dX7_init_108 rfl ?_
  refine k_cast (i := 0) C dX7_init_110 rfl (by decide) (by decide) rfl ?_
  refine k_dup C dX7_init_111 ?_
  refine k_bipush (v := nI 10) C dX7_init_112 rfl ?_
  refine k_bipush (v := 114) C dX7_init_114 rfl ?_
  refine k_cast (i := 0) C dX7_init_116 rfl (by decide) (by decide) rfl ?_
  refine k_dup C dX7_init_117 ?_
  refine k_bipush (v := nI 11) C dX7_init_118 rfl ?_
  refine k_iconst (v := 0) C dX7_init_120 rfl ?_
  refine k_cast (i := 0) C dX7_init_121 rfl (by decide) (by decide) rfl ?_
  refine k_dup C dX7_init_122 ?_
  refine k_bipush (v := nI 12) C dX7_init_123 rfl ?_
  refine k_bipush (v := 110) C dX7_init_125 rfl ?_
  refine k_cast (i := 0) C dX7_init_127 rfl (by decide) (by decide) rfl ?_
  refine k_dup C dX7_init_128 ?_
  refine k_bipush (v := nI 13) C dX7_init_129 rfl ?_
  refine k_bipush (v := 117) C dX7_init_131 rfl ?_
  refine k_cast (i := 0) C dX7_init_133 rfl (by decide) (by decide) rfl ?_
  refine k_dup C dX7_init_134 ?_
  refine k_bipush (v := nI 14) C dX7_init_135 rfl ?_
  refine k_bipush (v := 109) C dX7_init_137 rfl ?_
  refine k_cast (i := 0) C dX7_init_139 rfl (by decide) (by decide) rfl ?_
  refine k_dup C dX7_init_140 ?_
  refine k_bipush (v := nI 15) C dX7_init_141 rfl ?_
  refine k_bipush (v := 98) C dX7_init_143 rfl ?_
  refine k_cast (i := 0) C dX7_init_145 rfl (by decide) (by decide) rfl ?_
  refine k_dup C dX7_init_146 ?_
  refine k_bipush (v := nI 16) C dX7_init_147 rfl ?_
  refine k_bipush (v := 101) C dX7_init_149 rfl ?_
  refine k_cast (i := 0) C dX7_init_151 rfl (by decide) (by decide) rfl ?_
  refine k_dup C dX7_init_152 ?_
  refine k_bipush (v := nI 17) C dX7_init_153 rfl ?_
  refine k_bipush (v := 114) C dX7_init_155 rfl ?_
  refine k_cast (i := 0) C dX7_init_157 rfl (by decide) (by decide) rfl ?_
  refine k_dup C dX7_init_158 ?_
  refine k_bipush (v := nI 18) C dX7_init_159 rfl ?_
  refine k_bipush (v := 104) C dX7_init_161 rfl ?_
  refine k_cast (i := 0) C dX7_init_163 rfl (by decide) (by decide) rfl ?_
  refine k_dup C dX7_init_164 ?_
  refine k_bipush (v := nI 19) C dX7_init_165 rfl ?_
  refine k_bipush (v := 111) C dX7_init_167 rfl ?_
  refine k_cast (i := 0) C dX7_init_169 rfl (by decide) (by decide) rfl ?_
  refine k_dup C dX7_init_170 ?_
  refine k_bipush (v := nI 20) C dX7_init_171 rfl ?_
  refine k_bipush (v := 117) C dX7_init_173 rfl ?_
  refine k_cast (i := 0) C dX7_init_175 rfl (by decide) (by decide) rfl ?_
  refine k_dup C dX7_init_176 ?_
  refine k_bipush (v := nI 21) C dX7_init_177 rfl ?_
  refine k_bipush (v := 114) C dX7_init_179 rfl ?_
  refine k_cast (i := 0) C dX7_init_181 rfl (by decide) (by decide) rfl ?_
  refine k_dup C dX7_init_182 ?_
  refine k_bipush (v := nI 22) C dX7_init_183 rfl ?_
  refine k_iconst (v := 0) C dX7_init_185 rfl ?_
  refine k_cast (i := 0) C dX7_init_186 rfl (by decide) (by decide) rfl ?_
  refine k_dup C dX7_init_187 ?_
  refine k_bipush (v := nI 23) C dX7_init_188 rfl ?_
  refine k_iconst (v := 0) C dX7_init_190 rfl ?_
  refine k_cast (i := 0) C dX7_init_191 rfl (by decide) (by decide) rfl ?_
  refine k_dup C dX7_init_192 ?_
  refine k_bipush (v := nI 24) C dX7_init_193 rfl ?_
  refine k_bipush (v := 116) C dX7_init_195 rfl ?_
  refine k_cast (i := 0) C dX7_init_197 rfl (by decide) (by decide) rfl ?_
  refine k_dup C dX7_init_198 ?_
  refine k_bipush (v := nI 25) C dX7_init_199 rfl ?_
  refine k_bipush (v := 104) C dX7_init_201 rfl ?_
  refine k_cast (i := 0) C dX7_init_203 rfl (by decide) (by decide) rfl ?_
  refine k_dup C dX7_init_204 ?_
  refine k_bipush (v := nI 26) C dX7_init_205 rfl ?_
  refine k_bipush (v := 105) C dX7_init_207 rfl ?_
  refine k_cast (i := 0) C dX7_init_209 rfl (by decide) (by decide) rfl ?_
  refine k_dup C dX7_init_210 ?_
  refine k_bipush (v := nI 27) C dX7_init_211 rfl ?_
  refine k_bipush (v := 110) C dX7_init_213 rfl ?_
  refine k_cast (i := 0) C dX7_init_215 rfl (by decide) (by decide) rfl ?_
  refine k_dup C dX7_init_216 ?_
  refine k_bipush (v := nI 28) C dX7_init_217 rfl ?_
  refine k_bipush (v := 103) C dX7_init_219 rfl ?_
  refine k_cast (i := 0) C dX7_init_221 rfl (by decide) (by decide) rfl ?_
  refine k_dup C dX7_init_222 ?_
  refine k_bipush (v := nI 29) C dX7_init_223 rfl ?_
  refine k_bipush (v := 115) C dX7_init_225 rfl ?_
  refine k_cast (i := 0) C dX7_init_227 rfl (by decide) (by decide) rfl ?_
  refine k_dup C dX7_init_228 ?_
  refine k_bipush (v := nI 30) C dX7_init_229 rfl ?_
  refine k_bipush (v := 98) C dX7_init_231 rfl ?_
  refine k_cast (i := 0) C dX7_init_233 rfl (by decide) (by decide) rfl ?_
  refine k_dup C dX7_init_234 ?_
  refine k_bipush (v := nI 31) C dX7_init_235 rfl ?_
  refine k_bipush (v := 101) C dX7_init_237 rfl ?_
  refine k_cast (i := 0) C dX7_init_239 rfl (by decide) (by decide) rfl ?_
  refine k_dup C dX7_init_240 ?_
  refine k_bipush (v := nI 32) C dX7_init_241 rfl ?_
  refine k_bipush (v := 110) C dX7_init_243 rfl ?_
  refine k_cast (i := 0) C dX7_init_245 rfl (by decide) (by decide) rfl ?_
  refine k_dup C dX7_init_246 ?_
  refine k_bipush (v := nI 33) C dX7_init_247 rfl ?_
  refine k_bipush (v := 99) C dX7_init_249 rfl ?_
  refine k_cast (i := 0) C dX7_init_251 rfl (by decide) (by decide) rfl ?_
  refine k_dup C dX7_init_252 ?_
  refine k_bipush (v := nI 34) C dX7_init_253 rfl ?_
  refine k_bipush (v := 104) C dX7_init_255 rfl ?_
  refine k_cast (i := 0) C dX7_init_257 rfl (by decide) (by decide) rfl ?_
  refine k_dup C dX7_init_258 ?_
  refine k_bipush (v := nI 35) C dX7_init_259 rfl ?_
  refine k_iconst (v := 0) C dX7_init_261 rfl ?_
  refine k_cast (i := 0) C dX7_init_262 rfl (by decide) (by decide) rfl ?_
  refine k_dup C dX7_init_263 ?_
  refine k_bipush (v := nI 36) C dX7_init_264 rfl ?_
  refine k_bipush (v := 104) C dX7_init_266 rfl ?_
  refine k_cast (i := 0) C dX7_init_268 rfl (by decide) (by decide) rfl ?_
  refine k_dup C dX7_init_269 ?_
  refine k_bipush (v := nI 37) C dX7_init_270 rfl ?_
  refine k_bipush (v := 101) C dX7_init_272 rfl ?_
  refine k_cast (i := 0) C dX7_init_274 rfl (by decide) (by decide) rfl ?_
  refine k_dup C dX7_init_275 ?_
  refine k_bipush (v := nI 38) C dX7_init_276 rfl ?_
  refine k_bipush (v := 97) C dX7_init_278 rfl ?_
  refine k_cast (i := 0) C dX7_init_280 rfl (by decide) (by decide) rfl ?_
  refine k_dup C dX7_init_281 ?_
  refine k_bipush (v := nI 39) C dX7_init_282 rfl ?_
  refine k_bipush (v := 116) C dX7_init_284 rfl ?_
  refine k_cast (i := 0) C dX7_init_286 rfl (by decide) (by decide) rfl ?_
  refine k_dup C dX7_init_287 ?_
  refine k_bipush (v := nI 40) C dX7_init_288 rfl ?_
  refine k_bipush (v := 115) C dX7_init_290 rfl ?_
  refine k_cast (i := 0) C dX7_init_292 rfl (by decide) (by decide) rfl ?_
  refine k_dup C dX7_init_293 ?_
  refine k_bipush (v := nI 41) C dX7_init_294 rfl ?_
  refine k_iconst (v := 0) C dX7_init_296 rfl ?_
  refine k_cast (i := 0) C dX7_init_297 rfl (by decide) (by decide) rfl ?_
  refine k_dup C dX7_init_298 ?_
  refine k_bipush (v := nI 42) C dX7_init_299 rfl ?_
  refine k_bipush (v := 99) C dX7_init_301 rfl ?_
  refine k_cast (i := 0) C dX7_init_303 rfl (by decide) (by decide) rfl ?_
  refine k_dup C dX7_init_304 ?_
  refine k_bipush (v := nI 43) C dX7_init_305 rfl ?_
  refine k_bipush (v := 111) C dX7_init_307 rfl ?_
  refine k_cast (i := 0) C dX7_init_309 rfl (by decide) (by decide) rfl ?_
  refine k_dup C dX7_init_310 ?_
  refine k_bipush (v := nI 44) C dX7_init_311 rfl ?_
  refine k_bipush (v := 111) C dX7_init_313 rfl ?_
  refine k_cast (i := 0) C dX7_init_315 rfl (by decide) (by decide) rfl ?_
  refine k_dup C dX7_init_316 ?_
  refine k_bipush (v := nI 45) C dX7_init_317 rfl ?_
  refine k_bipush (v := 108) C dX7_init_319 rfl ?_
  refine k_cast (i := 0) C dX7_init_321 rfl (by decide) (by decide) rfl ?_
  refine k_dup C dX7_init_322 ?_
  refine k_bipush (v := nI 46) C dX7_init_323 rfl ?_
  refine k_bipush (v := 115) C dX7_init_325 rfl ?_
  refine k_cast (i := 0) C dX7_init_327 rfl (by decide) (by decide) rfl ?_
  refine k_dup C dX7_init_328 ?_
  refine k_bipush (v := nI 47) C dX7_init_329 rfl ?_
  refine k_iconst (v := 0) C dX7_init_331 rfl ?_
  refine k_cast (i := 0) C dX7_init_332 rfl (by decide) (by decide) rfl ?_
  refine k_dup C dX7_init_333 ?_
  refine k_bipush (v := nI 48) C dX7_init_334 rfl ?_
  refine k_bipush (v := 102) C dX7_init_336 rfl ?_
  refine k_cast (i := 0) C dX7_init_338 rfl (by decide) (by decide) rfl ?_
  refine k_dup C dX7_init_339 ?_
  refine k_bipush (v := nI 49) C dX7_init_340 rfl ?_
  refine k_bipush (v := 97) C dX7_init_342 rfl ?_
  refine k_cast (i := 0) C dX7_init_344 rfl (by decide) (by decide) rfl ?_
  refine k_dup C dX7_init_345 ?_
  refine k_bipush (v := nI 50) C dX7_init_346 rfl ?_
  refine k_bipush (v := 114) C dX7_init_348 rfl ?_
  refine k_cast (i := 0) C dX7_init_350 rfl (by decide) (by decide) rfl ?_
  refine k_dup C dX7_init_351 ?_
  refine k_bipush (v := nI 51) C dX7_init_352 rfl ?_
  refine k_iconst (v := 0) C dX7_init_354 rfl ?_
  refine k_cast (i := 0) C dX7_init_355 rfl (by decide) (by decide) rfl ?_
  refine k_dup C dX7_init_356 ?_
  refine k_bipush (v := nI 52) C dX7_init_357 rfl ?_
  refine k_iconst (v := 0) C dX7_init_359 rfl ?_
  refine k_cast (i := 0) C dX7_init_360 rfl (by decide) (by decide) rfl ?_
  refine k_dup C dX7_init_361 ?_
  refine k_bipush (v := nI 53) C dX7_init_362 rfl ?_
  refine k_iconst (v := 0) C dX7_init_364 rfl ?_
  refine k_cast (i := 0) C dX7_init_365 rfl (by decide) (by decide) rfl ?_
  refine k_dup C dX7_init_366 ?_
  refine k_bipush (v := nI 54) C dX7_init_367 rfl ?_
  refine k_bipush (v := 111) C dX7_init_369 rfl ?_
  refine k_cast (i := 0) C dX7_init_371 rfl (by decide) (by decide) rfl ?_
  refine k_dup C dX7_init_372 ?_
  refine k_bipush (v := nI 55) C dX7_init_373 rfl ?_
  refine k_bipush (v := 114) C dX7_init_375 rfl ?_
  refine k_cast (i := 0) C dX7_init_377 rfl (by decide) (by decide) rfl ?_
  refine k_dup C dX7_init_378 ?_
  refine k_bipush (v := nI 56) C dX7_init_379 rfl ?_
  refine k_iconst (v := 0) C dX7_init_381 rfl ?_
  refine k_cast (i := 0) C dX7_init_382 rfl (by decide) (by decide) rfl ?_
  refine k_dup C dX7_init_383 ?_
  refine k_bipush (v := nI 57) C dX7_init_384 rfl ?_
  refine k_iconst (v := 0) C dX7_init_386 rfl ?_
  refine k_cast (i := 0) C dX7_init_387 rfl (by decide) (by decide) rfl ?_
  refine k_dup C dX7_init_388 ?_
  refine k_bipush (v := nI 58) C dX7_init_389 rfl ?_
  refine k_iconst (v := 0) C dX7_init_391 rfl ?_
  refine k_cast (i := 0) C dX7_init_392 rfl (by decide) (by decide) rfl ?_
  refine k_dup C dX7_init_393 ?_
  refine k_bipush (v := nI 59) C dX7_init_394 rfl ?_
  refine k_iconst (v := 0) C dX7_init_396 rfl ?_
  refine k_cast (i := 0) C dX7_init_397 rfl (by decide) (by decide) rfl ?_
  refine k_dup C dX7_init_398 ?_
  refine k_bipush (v := nI 60) C dX7_init_399 rfl ?_
  refine k_bipush (v := 97) C dX7_init_401 rfl ?_
  refine k_cast (i := 0) C dX7_init_403 rfl (by decide) (by decide) rfl ?_
  refine k_dup C dX7_init_404 ?_
  refine k_bipush (v := nI 61) C dX7_init_405 rfl ?_
  refine k_bipush (v := 110) C dX7_init_407 rfl ?_
  refine k_cast (i := 0) C dX7_init_409 rfl (by decide) (by decide) rfl ?_
  refine k_dup C dX7_init_410 ?_
  refine k_bipush (v := nI 62) C dX7_init_411 rfl ?_
  refine k_bipush (v := 100) C dX7_init_413 rfl ?_
  refine k_cast (i := 0) C dX7_init_415 rfl (by decide) (by decide) rfl ?_
  refine k_dup C dX7_init_416 ?_
  refine k_bipush (v := nI 63) C dX7_init_417 rfl ?_
  refine k_iconst (v := 0) C dX7_init_419 rfl ?_
  refine k_cast (i := 0) C dX7_init_420 rfl (by decide) (by decide) rfl ?_
  refine k_dup C dX7_init_421 ?_
  refine k_bipush (v := nI 64) C dX7_init_422 rfl ?_
  refine k_iconst (v := 0) C dX7_init_424 rfl ?_
  refine k_cast (i := 0) C dX7_init_425 rfl (by decide) (by decide) rfl ?_
  refine k_dup C dX7_init_426 ?_
  refine k_bipush (v := nI 65) C dX7_init_427 rfl ?_
  refine k_iconst (v := 0) C dX7_init_429 rfl ?_
  refine k_cast (i := 0) C dX7_init_430 rfl (by decide) (by decide) rfl ?_
  refine k_dup C dX7_init_431 ?_
  refine k_bipush (v := nI 66) C dX7_init_432 rfl ?_
  refine k_bipush (v := 110) C dX7_init_434 rfl ?_
  refine k_cast (i := 0) C dX7_init_436 rfl (by decide) (by decide) rfl ?_
  refine k_dup C dX7_init_437 ?_
  refine k_bipush (v := nI 67) C dX7_init_438 rfl ?_
  refine k_bipush (v := 111) C dX7_init_440 rfl ?_
  refine k_cast (i := 0) C dX7_init_442 rfl (by decide) (by decide) rfl ?_
  refine k_dup C dX7_init_443 ?_
  refine k_bipush (v := nI 68) C dX7_init_444 rfl ?_
  refine k_bipush (v := 116) C dX7_init_446 rfl ?_
  refine k_cast (i := 0) C dX7_init_448 rfl (by decide) (by decide) rfl ?_
  refine k_dup C dX7_init_449 ?_
  refine k_bipush (v := nI 69) C dX7_init_450 rfl ?_
  refine k_iconst (v := 0) C dX7_init_452 rfl ?_
  refine k_cast (i := 0) C dX7_init_453 rfl (by decide) (by decide) rfl ?_
  refine k_dup C dX7_init_454 ?_
  refine k_bipush (v := nI 70) C dX7_init_455 rfl ?_
  refine k_iconst (v := 0) C dX7_init_457 rfl ?_
  refine k_cast (i := 0) C dX7_init_458 rfl (by decide) (by decide) rfl ?_
  refine k_dup C dX7_init_459 ?_
  refine k_bipush (v := nI 71) C dX7_init_460 rfl ?_
  refine k_iconst (v := 0) C dX7_init_462 rfl ?_
  refine k_cast (i := 0) C dX7_init_463 rfl (by decide) (by decide) rfl ?_
  refine k_put (i := 7) C dX7_init_464 rfl fl_X7_33 ff_7_13 (fun _ => rfl) (fun _ => rfl) rfl (Nat.le_of_ble_eq_true rfl) rfl ?_
  refine nG_ns (ns' := (44, .inl (2, 72, [])) :: (58, .inl (0, 7, [])) :: (43, .inl (0, 18, [])) :: (42, .inl (0, 960, [])) :: (41, .inl (0, 160, [])) :: (40, .inl (0, 63, [])) :: (39, .inl (0, 63, [])) :: (38, .inr (7, [.ref 39, .ref 40, .int 0, .ref 41, .int 0, .int 0, .int 0, .int 0, .int 0, .ref 42, .ref 43, .int 0, .int 0, .ref 44, .null, .int 0, .null, .int 0, .int 0, .int 0, .int 0, .null, .null, .null, .null, .null, .null, .null, .null, .null, .null, .null])) :: ns) rfl ?_
  refine k_aload C dX7_init_467 rfl ?_
  refine k_sipush (v := nI 160) C dX7_init_468 rfl ?_
  refine k_newI (k := 45) C dX7_init_471 aw_int (by decide) rfl (q45.trans (by omega)) (by decide) (by decide) ?_
  refine k_put (i := 8) C dX7_init_473 rfl fl_X7_37 ff_7_14 (fun _ => rfl) (fun _ => rfl) rfl (Nat.le_of_ble_eq_true rfl) rfl ?_
  refine nG_ns (ns' := (45, .inl (0, 160, [])) :: (44, .inl (2, 72, [])) :: (58, .inl (0, 7, [])) :: (43, .inl (0, 18, [])) :: (42, .inl (0, 960, [])) :: (41, .inl (0, 160, [])) :: (40, .inl (0, 63, [])) :: (39, .inl (0, 63, [])) :: (38, .inr (7, [.ref 39, .ref 40, .int 0, .ref 41, .int 0, .int 0, .int 0, .int 0, .int 0, .ref 42, .ref 43, .int 0, .int 0, .ref 44, .ref 45, .int 0, .null, .int 0, .int 0, .int 0, .int 0, .null, .null, .null, .null, .null, .null, .null, .null, .null, .null, .null])) :: ns) rfl ?_
  refine k_aload C dX7_init_476 rfl ?_
  refine k_sipush (v := nI 160) C dX7_init_477 rfl ?_
  refine k_newI (k := 46) C dX7_init_480 aw_int (by decide) rfl (q46.trans (by omega)) (by decide) (by decide) ?_
  refine k_put (i := 9) C dX7_init_482 rfl fl_X7_40 ff_7_16 (fun _ => rfl) (fun _ => rfl) rfl (Nat.le_of_ble_eq_true rfl) rfl ?_
  refine nG_ns (ns' := (46, .inl (0, 160, [])) :: (45, .inl (0, 160, [])) :: (44, .inl (2, 72, [])) :: (58, .inl (0, 7, [])) :: (43, .inl (0, 18, [])) :: (42, .inl (0, 960, [])) :: (41, .inl (0, 160, [])) :: (40, .inl (0, 63, [])) :: (39, .inl (0, 63, [])) :: (38, .inr (7, [.ref 39, .ref 40, .int 0, .ref 41, .int 0, .int 0, .int 0, .int 0, .int 0, .ref 42, .ref 43, .int 0, .int 0, .ref 44, .ref 45, .int 0, .ref 46, .int 0, .int 0, .int 0, .int 0, .null, .null, .null, .null, .null, .null, .null, .null, .null, .null, .null])) :: ns) rfl ?_
  refine k_aload C dX7_init_485 rfl ?_
  refine k_sipush (v := nI 600) C dX7_init_486 rfl ?_
  refine k_newI (k := 47) C dX7_init_489 aw_int (by decide) rfl (q47.trans (by omega)) (by decide) (by decide) ?_
  refine k_put (i := 10) C dX7_init_491 rfl fl_X7_43 ff_7_21 (fun _ => rfl) (fun _ => rfl) rfl (Nat.le_of_ble_eq_true rfl) rfl ?_
  refine nG_ns (ns' := (47, .inl (0, 600, [])) :: (46, .inl (0, 160, [])) :: (45, .inl (0, 160, [])) :: (44, .inl (2, 72, [])) :: (58, .inl (0, 7, [])) :: (43, .inl (0, 18, [])) :: (42, .inl (0, 960, [])) :: (41, .inl (0, 160, [])) :: (40, .inl (0, 63, [])) :: (39, .inl (0, 63, [])) :: (38, .inr (7, [.ref 39, .ref 40, .int 0, .ref 41, .int 0, .int 0, .int 0, .int 0, .int 0, .ref 42, .ref 43, .int 0, .int 0, .ref 44, .ref 45, .int 0, .ref 46, .int 0, .int 0, .int 0, .int 0, .ref 47, .null, .null, .null, .null, .null, .null, .null, .null, .null, .null])) :: ns) rfl ?_
  refine k_aload C dX7_init_494 rfl ?_
  refine k_bipush (v := nI 100) C dX7_init_495 rfl ?_
  refine k_newI (k := 48) C dX7_init_497 aw_int (by decide) rfl (q48.trans (by omega)) (by decide) (by decide) ?_
  refine k_put (i := 11) C dX7_init_499 rfl fl_X7_46 ff_7_22 (fun _ => rfl) (fun _ => rfl) rfl (Nat.le_of_ble_eq_true rfl) rfl ?_
  refine nG_ns (ns' := (48, .inl (0, 100, [])) :: (47, .inl (0, 600, [])) :: (46, .inl (0, 160, [])) :: (45, .inl (0, 160, [])) :: (44, .inl (2, 72, [])) :: (58, .inl (0, 7, [])) :: (43, .inl (0, 18, [])) :: (42, .inl (0, 960, [])) :: (41, .inl (0, 160, [])) :: (40, .inl (0, 63, [])) :: (39, .inl (0, 63, [])) :: (38, .inr (7, [.ref 39, .ref 40, .int 0, .ref 41, .int 0, .int 0, .int 0, .int 0, .int 0, .ref 42, .ref 43, .int 0, .int 0, .ref 44, .ref 45, .int 0, .ref 46, .int 0, .int 0, .int 0, .int 0, .ref 47, .ref 48, .null, .null, .null, .null, .null, .null, .null, .null, .null])) :: ns) rfl ?_
  refine k_aload C dX7_init_502 rfl ?_
  refine k_bipush (v := nI 100) C dX7_init_503 rfl ?_
  refine k_newI (k := 49) C dX7_init_505 aw_int (by decide) rfl (q49.trans (by omega)) (by decide) (by decide) ?_
  refine k_put (i := 12) C dX7_init_507 rfl fl_X7_49 ff_7_23 (fun _ => rfl) (fun _ => rfl) rfl (Nat.le_of_ble_eq_true rfl) rfl ?_
  refine nG_ns (ns' := (49, .inl (0, 100, [])) :: (48, .inl (0, 100, [])) :: (47, .inl (0, 600, [])) :: (46, .inl (0, 160, [])) :: (45, .inl (0, 160, [])) :: (44, .inl (2, 72, [])) :: (58, .inl (0, 7, [])) :: (43, .inl (0, 18, [])) :: (42, .inl (0, 960, [])) :: (41, .inl (0, 160, [])) :: (40, .inl (0, 63, [])) :: (39, .inl (0, 63, [])) :: (38, .inr (7, [.ref 39, .ref 40, .int 0, .ref 41, .int 0, .int 0, .int 0, .int 0, .int 0, .ref 42, .ref 43, .int 0, .int 0, .ref 44, .ref 45, .int 0, .ref 46, .int 0, .int 0, .int 0, .int 0, .ref 47, .ref 48, .ref 49, .null, .null, .null, .null, .null, .null, .null, .null])) :: ns) rfl ?_
  refine k_aload C dX7_init_510 rfl ?_
  refine k_bipush (v := nI 100) C dX7_init_511 rfl ?_
  refine k_newZ (k := 50) C dX7_init_513 aw_boolean (by decide) rfl (q50.trans (by omega)) (by decide) (by decide) ?_
  refine k_put (i := 13) C dX7_init_515 rfl fl_X7_52 ff_7_24 (fun _ => rfl) (fun _ => rfl) rfl (Nat.le_of_ble_eq_true rfl) rfl ?_
  refine nG_ns (ns' := (50, .inl (3, 100, [])) :: (49, .inl (0, 100, [])) :: (48, .inl (0, 100, [])) :: (47, .inl (0, 600, [])) :: (46, .inl (0, 160, [])) :: (45, .inl (0, 160, [])) :: (44, .inl (2, 72, [])) :: (58, .inl (0, 7, [])) :: (43, .inl (0, 18, [])) :: (42, .inl (0, 960, [])) :: (41, .inl (0, 160, [])) :: (40, .inl (0, 63, [])) :: (39, .inl (0, 63, [])) :: (38, .inr (7, [.ref 39, .ref 40, .int 0, .ref 41, .int 0, .int 0, .int 0, .int 0, .int 0, .ref 42, .ref 43, .int 0, .int 0, .ref 44, .ref 45, .int 0, .ref 46, .int 0, .int 0, .int 0, .int 0, .ref 47, .ref 48, .ref 49, .ref 50, .null, .null, .null, .null, .null, .null, .null])) :: ns) rfl ?_
  refine k_aload C dX7_init_518 rfl ?_
  refine k_bipush (v := nI 100) C dX7_init_519 rfl ?_
  refine k_newJ (k := 51) C dX7_init_521 aw_long (by decide) rfl (q51.trans (by omega)) (by decide) (by decide) ?_
  refine k_put (i := 14) C dX7_init_523 rfl fl_X7_56 ff_7_25 (fun _ => rfl) (fun _ => rfl) rfl (Nat.le_of_ble_eq_true rfl) rfl ?_
  refine nG_ns (ns' := (51, .inl (1, 100, [])) :: (50, .inl (3, 100, [])) :: (49, .inl (0, 100, [])) :: (48, .inl (0, 100, [])) :: (47, .inl (0, 600, [])) :: (46, .inl (0, 160, [])) :: (45, .inl (0, 160, [])) :: (44, .inl (2, 72, [])) :: (58, .inl (0, 7, [])) :: (43, .inl (0, 18, [])) :: (42, .inl (0, 960, [])) :: (41, .inl (0, 160, [])) :: (40, .inl (0, 63, [])) :: (39, .inl (0, 63, [])) :: (38, .inr (7, [.ref 39, .ref 40, .int 0, .ref 41, .int 0, .int 0, .int 0, .int 0, .int 0, .ref 42, .ref 43, .int 0, .int 0, .ref 44, .ref 45, .int 0, .ref 46, .int 0, .int 0, .int 0, .int 0, .ref 47, .ref 48, .ref 49, .ref 50, .ref 51, .null, .null, .null, .null, .null, .null])) :: ns) rfl ?_
  refine k_aload C dX7_init_526 rfl ?_
  refine k_bipush (v := nI 100) C dX7_init_527 rfl ?_
  refine k_newJ (k := 52) C dX7_init_529 aw_long (by decide) rfl (q52.trans (by omega)) (by decide) (by decide) ?_
  refine k_put (i := 15) C dX7_init_531 rfl fl_X7_60 ff_7_26 (fun _ => rfl) (fun _ => rfl) rfl (Nat.le_of_ble_eq_true rfl) rfl ?_
  refine nG_ns (ns' := (52, .inl (1, 100, [])) :: (51, .inl (1, 100, [])) :: (50, .inl (3, 100, [])) :: (49, .inl (0, 100, [])) :: (48, .inl (0, 100, [])) :: (47, .inl (0, 600, [])) :: (46, .inl (0, 160, [])) :: (45, .inl (0, 160, [])) :: (44, .inl (2, 72, [])) :: (58, .inl (0, 7, [])) :: (43, .inl (0, 18, [])) :: (42, .inl (0, 960, [])) :: (41, .inl (0, 160, [])) :: (40, .inl (0, 63, [])) :: (39, .inl (0, 63, [])) :: (38, .inr (7, [.ref 39, .ref 40, .int 0, .ref 41, .int 0, .int 0, .int 0, .int 0, .int 0, .ref 42, .ref 43, .int 0, .int 0, .ref 44, .ref 45, .int 0, .ref 46, .int 0, .int 0, .int 0, .int 0, .ref 47, .ref 48, .ref 49, .ref 50, .ref 51, .ref 52, .null, .null, .null, .null, .null])) :: ns) rfl ?_
  refine k_aload C dX7_init_534 rfl ?_
  refine k_iconst (v := nI 4) C dX7_init_535 rfl ?_
  refine k_newI (k := 53) C dX7_init_536 aw_int (by decide) rfl (q53.trans (by omega)) (by decide) (by decide) ?_
  refine k_dup C dX7_init_538 ?_
  refine k_iconst (v := nI 0) C dX7_init_539 rfl ?_
  refine k_iconst (v := -1) C dX7_init_540 rfl ?_
  refine k_iast (i := 0) C dX7_init_541 rfl (by decide) (by decide) ?_
  refine k_dup C dX7_init_542 ?_
  refine k_iconst (v := nI 1) C dX7_init_543 rfl ?_
  refine k_iconst (v := -1) C dX7_init_544 rfl ?_
  refine k_iast (i := 0) C dX7_init_545 rfl (by decide) (by decide) ?_
  refine k_dup C dX7_init_546 ?_
  refine k_iconst (v := nI 2) C dX7_init_547 rfl ?_
  refine k_iconst (v := -1) C dX7_init_548 rfl ?_
  refine k_iast (i := 0) C dX7_init_549 rfl (by decide) (by decide) ?_
  refine k_dup C dX7_init_550 ?_
  refine k_iconst (v := nI 3) C dX7_init_551 rfl ?_
  refine k_iconst (v := -1) C dX7_init_552 rfl ?_
  refine k_iast (i := 0) C dX7_init_553 rfl (by decide) (by decide) ?_
  refine k_put (i := 16) C dX7_init_554 rfl fl_X7_63 ff_7_27 (fun _ => rfl) (fun _ => rfl) rfl (Nat.le_of_ble_eq_true rfl) rfl ?_
  refine nG_ns (ns' := (53, .inl (0, 4, [])) :: (52, .inl (1, 100, [])) :: (51, .inl (1, 100, [])) :: (50, .inl (3, 100, [])) :: (49, .inl (0, 100, [])) :: (48, .inl (0, 100, [])) :: (47, .inl (0, 600, [])) :: (46, .inl (0, 160, [])) :: (45, .inl (0, 160, [])) :: (44, .inl (2, 72, [])) :: (58, .inl (0, 7, [])) :: (43, .inl (0, 18, [])) :: (42, .inl (0, 960, [])) :: (41, .inl (0, 160, [])) :: (40, .inl (0, 63, [])) :: (39, .inl (0, 63, [])) :: (38, .inr (7, [.ref 39, .ref 40, .int 0, .ref 41, .int 0, .int 0, .int 0, .int 0, .int 0, .ref 42, .ref 43, .int 0, .int 0, .ref 44, .ref 45, .int 0, .ref 46, .int 0, .int 0, .int 0, .int 0, .ref 47, .ref 48, .ref 49, .ref 50, .ref 51, .ref 52, .ref 53, .null, .null, .null, .null])) :: ns) rfl ?_
  refine k_aload C dX7_init_557 rfl ?_
  refine k_iconst (v := nI 4) C dX7_init_558 rfl ?_
  refine k_newI (k := 54) C dX7_init_559 aw_int (by decide) rfl (q54.trans (by omega)) (by decide) (by decide) ?_
  refine k_put (i := 17) C dX7_init_561 rfl fl_X7_66 ff_7_28 (fun _ => rfl) (fun _ => rfl) rfl (Nat.le_of_ble_eq_true rfl) rfl ?_
  refine nG_ns (ns' := (54, .inl (0, 4, [])) :: (53, .inl (0, 4, [])) :: (52, .inl (1, 100, [])) :: (51, .inl (1, 100, [])) :: (50, .inl (3, 100, [])) :: (49, .inl (0, 100, [])) :: (48, .inl (0, 100, [])) :: (47, .inl (0, 600, [])) :: (46, .inl (0, 160, [])) :: (45, .inl (0, 160, [])) :: (44, .inl (2, 72, [])) :: (58, .inl (0, 7, [])) :: (43, .inl (0, 18, [])) :: (42, .inl (0, 960, [])) :: (41, .inl (0, 160, [])) :: (40, .inl (0, 63, [])) :: (39, .inl (0, 63, [])) :: (38, .inr (7, [.ref 39, .ref 40, .int 0, .ref 41, .int 0, .int 0, .int 0, .int 0, .int 0, .ref 42, .ref 43, .int 0, .int 0, .ref 44, .ref 45, .int 0, .ref 46, .int 0, .int 0, .int 0, .int 0, .ref 47, .ref 48, .ref 49, .ref 50, .ref 51, .ref 52, .ref 53, .ref 54, .null, .null, .null])) :: ns) rfl ?_
  refine k_aload C dX7_init_564 rfl ?_
  refine k_sipush (v := nI 160) C dX7_init_565 rfl ?_
  refine k_newI (k := 55) C dX7_init_568 aw_int (by decide) rfl (q55.trans (by omega)) (by decide) (by decide) ?_
  refine k_put (i := 18) C dX7_init_570 rfl fl_X7_69 ff_7_29 (fun _ => rfl) (fun _ => rfl) rfl (Nat.le_of_ble_eq_true rfl) rfl ?_
  refine nG_ns (ns' := (55, .inl (0, 160, [])) :: (54, .inl (0, 4, [])) :: (53, .inl (0, 4, [])) :: (52, .inl (1, 100, [])) :: (51, .inl (1, 100, [])) :: (50, .inl (3, 100, [])) :: (49, .inl (0, 100, [])) :: (48, .inl (0, 100, [])) :: (47, .inl (0, 600, [])) :: (46, .inl (0, 160, [])) :: (45, .inl (0, 160, [])) :: (44, .inl (2, 72, [])) :: (58, .inl (0, 7, [])) :: (43, .inl (0, 18, [])) :: (42, .inl (0, 960, [])) :: (41, .inl (0, 160, [])) :: (40, .inl (0, 63, [])) :: (39, .inl (0, 63, [])) :: (38, .inr (7, [.ref 39, .ref 40, .int 0, .ref 41, .int 0, .int 0, .int 0, .int 0, .int 0, .ref 42, .ref 43, .int 0, .int 0, .ref 44, .ref 45, .int 0, .ref 46, .int 0, .int 0, .int 0, .int 0, .ref 47, .ref 48, .ref 49, .ref 50, .ref 51, .ref 52, .ref 53, .ref 54, .ref 55, .null, .null])) :: ns) rfl ?_
  refine k_aload C dX7_init_573 rfl ?_
  refine k_bipush (v := nI 40) C dX7_init_574 rfl ?_
  refine k_newI (k := 56) C dX7_init_576 aw_int (by decide) rfl (q56.trans (by omega)) (by decide) (by decide) ?_
  refine k_put (i := 19) C dX7_init_578 rfl fl_X7_72 ff_7_30 (fun _ => rfl) (fun _ => rfl) rfl (Nat.le_of_ble_eq_true rfl) rfl ?_
  refine nG_ns (ns' := (56, .inl (0, 40, [])) :: (55, .inl (0, 160, [])) :: (54, .inl (0, 4, [])) :: (53, .inl (0, 4, [])) :: (52, .inl (1, 100, [])) :: (51, .inl (1, 100, [])) :: (50, .inl (3, 100, [])) :: (49, .inl (0, 100, [])) :: (48, .inl (0, 100, [])) :: (47, .inl (0, 600, [])) :: (46, .inl (0, 160, [])) :: (45, .inl (0, 160, [])) :: (44, .inl (2, 72, [])) :: (58, .inl (0, 7, [])) :: (43, .inl (0, 18, [])) :: (42, .inl (0, 960, [])) :: (41, .inl (0, 160, [])) :: (40, .inl (0, 63, [])) :: (39, .inl (0, 63, [])) :: (38, .inr (7, [.ref 39, .ref 40, .int 0, .ref 41, .int 0, .int 0, .int 0, .int 0, .int 0, .ref 42, .ref 43, .int 0, .int 0, .ref 44, .ref 45, .int 0, .ref 46, .int 0, .int 0, .int 0, .int 0, .ref 47, .ref 48, .ref 49, .ref 50, .ref 51, .ref 52, .ref 53, .ref 54, .ref 55, .ref 56, .null])) :: ns) rfl ?_
  refine k_aload C dX7_init_581 rfl ?_
  refine k_bipush (v := nI 6) C dX7_init_582 rfl ?_
  refine k_newI (k := 57) C dX7_init_584 aw_int (by decide) rfl (q57.trans (by omega)) (by decide) (by decide) ?_
  refine k_dup C dX7_init_586 ?_
  refine k_iconst (v := nI 0) C dX7_init_587 rfl ?_
  refine k_iconst (v := -1) C dX7_init_588 rfl ?_
  refine k_iast (i := 0) C dX7_init_589 rfl (by decide) (by decide) ?_
  refine k_dup C dX7_init_590 ?_
  refine k_iconst (v := nI 1) C dX7_init_591 rfl ?_
  refine k_iconst (v := 0) C dX7_init_592 rfl ?_
  refine k_iast (i := 0) C dX7_init_593 rfl (by decide) (by decide) ?_
  refine k_dup C dX7_init_594 ?_
  refine k_iconst (v := nI 2) C dX7_init_595 rfl ?_
  refine k_iconst (v := 0) C dX7_init_596 rfl ?_
  refine k_iast (i := 0) C dX7_init_597 rfl (by decide) (by decide) ?_
  refine k_dup C dX7_init_598 ?_
  refine k_iconst (v := nI 3) C dX7_init_599 rfl ?_
  refine k_iconst (v := 1) C dX7_init_600 rfl ?_
  refine k_iast (i := 0) C dX7_init_601 rfl (by decide) (by decide) ?_
  refine k_dup C dX7_init_602 ?_
  refine k_iconst (v := nI 4) C dX7_init_603 rfl ?_
  refine k_iconst (v := 2) C dX7_init_604 rfl ?_
  refine k_iast (i := 0) C dX7_init_605 rfl (by decide) (by decide) ?_
  refine k_dup C dX7_init_606 ?_
  refine k_iconst (v := nI 5) C dX7_init_607 rfl ?_
  refine k_iconst (v := 0) C dX7_init_608 rfl ?_
  refine k_iast (i := 0) C dX7_init_609 rfl (by decide) (by decide) ?_
  refine k_put (i := 20) C dX7_init_610 rfl fl_X7_75 ff_7_31 (fun _ => rfl) (fun _ => rfl) rfl (Nat.le_of_ble_eq_true rfl) rfl ?_
  refine nG_ns (ns' := (57, .inl (0, 6, [])) :: (56, .inl (0, 40, [])) :: (55, .inl (0, 160, [])) :: (54, .inl (0, 4, [])) :: (53, .inl (0, 4, [])) :: (52, .inl (1, 100, [])) :: (51, .inl (1, 100, [])) :: (50, .inl (3, 100, [])) :: (49, .inl (0, 100, [])) :: (48, .inl (0, 100, [])) :: (47, .inl (0, 600, [])) :: (46, .inl (0, 160, [])) :: (45, .inl (0, 160, [])) :: (44, .inl (2, 72, [])) :: (58, .inl (0, 7, [])) :: (43, .inl (0, 18, [])) :: (42, .inl (0, 960, [])) :: (41, .inl (0, 160, [])) :: (40, .inl (0, 63, [])) :: (39, .inl (0, 63, [])) :: (38, .inr (7, [.ref 39, .ref 40, .int 0, .ref 41, .int 0, .int 0, .int 0, .int 0, .int 0, .ref 42, .ref 43, .int 0, .int 0, .ref 44, .ref 45, .int 0, .ref 46, .int 0, .int 0, .int 0, .int 0, .ref 47, .ref 48, .ref 49, .ref 50, .ref 51, .ref 52, .ref 53, .ref 54, .ref 55, .ref 56, .ref 57])) :: ns) rfl ?_
  exact k_ret C dX7_init_613 rfl rfl rfl rfl rfl
