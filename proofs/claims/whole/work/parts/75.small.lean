/-! WORDS OF THE CONSTRUCTORS -/
theorem aw_int : Cond.arrayClass .int ∈ mTb := mTb_of 146 (by decide +kernel) rfl
theorem aw_long : Cond.arrayClass .long ∈ mTb := mTb_of 255 (by decide +kernel) rfl
theorem aw_byte : Cond.arrayClass .byte ∈ mTb := mTb_of 493 (by decide +kernel) rfl
theorem aw_char : Cond.arrayClass .char ∈ mTb := mTb_of 1006 (by decide +kernel) rfl
theorem aw_boolean : Cond.arrayClass .boolean ∈ mTb := mTb_of 1007 (by decide +kernel) rfl
theorem ob_i : Cond.instanceMethod Lib.objectInit ∈ mTb := mTb_of 100 (by decide +kernel) rfl
theorem ob_c : Cond.code Lib.objectInit ⟨#[0xb1]⟩ 1 none ∈ mTb := mTb_of 101 (by decide +kernel) rfl
theorem ob_X0 : Cond.methodLink RX0 3 Lib.objectInit ∈ mTb := mTb_of 228 (by decide +kernel) rfl
def mm_X0_init : mM := (yX0_init, cX0_init, 1, none)
theorem ok_X0_init : mOk mm_X0_init 0 := ⟨mTb_of 227 (by decide +kernel) rfl, mTb_of 82 (by decide +kernel) rfl, by decide +kernel, by decide⟩
theorem iw_X0 : Cond.instanceMethod yX0_init ∈ mTb := mTb_of 226 (by decide +kernel) rfl
theorem ff_0_0 : mFF RX0 0 0 (.array .int) := ⟨RX0, TX0, 8, tyX0, rfl, tyX0_ok, nmX0, rfl, rfl, by decide +kernel⟩
theorem ff_0_1 : mFF RX0 0 1 (.array .int) := ⟨RX0, TX0, 8, tyX0, rfl, tyX0_ok, nmX0, rfl, rfl, by decide +kernel⟩
theorem ff_0_2 : mFF RX0 0 2 (.array .int) := ⟨RX0, TX0, 8, tyX0, rfl, tyX0_ok, nmX0, rfl, rfl, by decide +kernel⟩
theorem ff_0_3 : mFF RX0 0 3 (.array .int) := ⟨RX0, TX0, 8, tyX0, rfl, tyX0_ok, nmX0, rfl, rfl, by decide +kernel⟩
theorem ff_0_4 : mFF RX0 0 4 (.array .int) := ⟨RX0, TX0, 8, tyX0, rfl, tyX0_ok, nmX0, rfl, rfl, by decide +kernel⟩
theorem ff_0_5 : mFF RX0 0 5 (.array .long) := ⟨RX0, TX0, 8, tyX0, rfl, tyX0_ok, nmX0, rfl, rfl, by decide +kernel⟩
theorem ff_0_6 : mFF RX0 0 6 (.array .long) := ⟨RX0, TX0, 8, tyX0, rfl, tyX0_ok, nmX0, rfl, rfl, by decide +kernel⟩
theorem ob_X1 : Cond.methodLink RX1 3 Lib.objectInit ∈ mTb := mTb_of 175 (by decide +kernel) rfl
def mm_X1_init : mM := (yX1_init, cX1_init, 2, none)
theorem ok_X1_init : mOk mm_X1_init 1 := ⟨mTb_of 174 (by decide +kernel) rfl, mTb_of 80 (by decide +kernel) rfl, by decide +kernel, by decide⟩
theorem iw_X1 : Cond.instanceMethod yX1_init ∈ mTb := mTb_of 173 (by decide +kernel) rfl
theorem ff_1_0 : mFF RX1 1 0 (.object "NoViewWithoutQuarrel$Texts") := ⟨RX1, TX1, 8, tyX1, rfl, tyX1_ok, nmX1, rfl, rfl, by decide +kernel⟩
theorem ff_1_1 : mFF RX1 1 1 (.array .int) := ⟨RX1, TX1, 8, tyX1, rfl, tyX1_ok, nmX1, rfl, rfl, by decide +kernel⟩
theorem ob_X2 : Cond.methodLink RX2 3 Lib.objectInit ∈ mTb := mTb_of 107 (by decide +kernel) rfl
def mm_X2_init : mM := (yX2_init, cX2_init, 1, none)
theorem ok_X2_init : mOk mm_X2_init 0 := ⟨mTb_of 106 (by decide +kernel) rfl, mTb_of 78 (by decide +kernel) rfl, by decide +kernel, by decide⟩
theorem iw_X2 : Cond.instanceMethod yX2_init ∈ mTb := mTb_of 105 (by decide +kernel) rfl
theorem ff_2_0 : mFF RX2 2 0 (.array .int) := ⟨RX2, TX2, 8, tyX2, rfl, tyX2_ok, nmX2, rfl, rfl, by decide +kernel⟩
theorem ff_2_1 : mFF RX2 2 1 (.array .int) := ⟨RX2, TX2, 8, tyX2, rfl, tyX2_ok, nmX2, rfl, rfl, by decide +kernel⟩
theorem ff_2_2 : mFF RX2 2 2 (.array .int) := ⟨RX2, TX2, 8, tyX2, rfl, tyX2_ok, nmX2, rfl, rfl, by decide +kernel⟩
theorem ff_2_3 : mFF RX2 2 3 (.array .int) := ⟨RX2, TX2, 8, tyX2, rfl, tyX2_ok, nmX2, rfl, rfl, by decide +kernel⟩
theorem ff_2_4 : mFF RX2 2 4 (.array .int) := ⟨RX2, TX2, 8, tyX2, rfl, tyX2_ok, nmX2, rfl, rfl, by decide +kernel⟩
theorem ob_X3 : Cond.methodLink RX3 3 Lib.objectInit ∈ mTb := mTb_of 262 (by decide +kernel) rfl
def mm_X3_init : mM := (yX3_init, cX3_init, 1, none)
theorem ok_X3_init : mOk mm_X3_init 0 := ⟨mTb_of 261 (by decide +kernel) rfl, mTb_of 83 (by decide +kernel) rfl, by decide +kernel, by decide⟩
theorem iw_X3 : Cond.instanceMethod yX3_init ∈ mTb := mTb_of 260 (by decide +kernel) rfl
theorem ff_3_0 : mFF RX3 3 0 (.array .int) := ⟨RX3, TX3, 3, tyX3, rfl, tyX3_ok, nmX3, rfl, rfl, by decide +kernel⟩
theorem ob_X4 : Cond.methodLink RX4 3 Lib.objectInit ∈ mTb := mTb_of 207 (by decide +kernel) rfl
def mm_X4_init : mM := (yX4_init, cX4_init, 2, none)
theorem ok_X4_init : mOk mm_X4_init 1 := ⟨mTb_of 206 (by decide +kernel) rfl, mTb_of 81 (by decide +kernel) rfl, by decide +kernel, by decide⟩
theorem iw_X4 : Cond.instanceMethod yX4_init ∈ mTb := mTb_of 205 (by decide +kernel) rfl
theorem ff_4_0 : mFF RX4 4 0 (.object "NoViewWithoutQuarrel$Texts") := ⟨RX4, TX4, 4, tyX4, rfl, tyX4_ok, nmX4, rfl, rfl, by decide +kernel⟩
theorem ff_4_1 : mFF RX4 4 1 (.array .int) := ⟨RX4, TX4, 4, tyX4, rfl, tyX4_ok, nmX4, rfl, rfl, by decide +kernel⟩
theorem ob_X5 : Cond.methodLink RX5 3 Lib.objectInit ∈ mTb := mTb_of 152 (by decide +kernel) rfl
def mm_X5_init : mM := (yX5_init, cX5_init, 1, none)
theorem ok_X5_init : mOk mm_X5_init 0 := ⟨mTb_of 151 (by decide +kernel) rfl, mTb_of 79 (by decide +kernel) rfl, by decide +kernel, by decide⟩
theorem iw_X5 : Cond.instanceMethod yX5_init ∈ mTb := mTb_of 150 (by decide +kernel) rfl
theorem ff_5_0 : mFF RX5 5 0 (.array .int) := ⟨RX5, TX5, 5, tyX5, rfl, tyX5_ok, nmX5, rfl, rfl, by decide +kernel⟩
theorem ff_5_1 : mFF RX5 5 1 (.array .int) := ⟨RX5, TX5, 5, tyX5, rfl, tyX5_ok, nmX5, rfl, rfl, by decide +kernel⟩
theorem ff_5_2 : mFF RX5 5 2 (.array .int) := ⟨RX5, TX5, 5, tyX5, rfl, tyX5_ok, nmX5, rfl, rfl, by decide +kernel⟩
theorem ob_X6 : Cond.methodLink RX6 1 Lib.objectInit ∈ mTb := mTb_of 99 (by decide +kernel) rfl
def mm_X6_init : mM := (yX6_init, cX6_init, 2, none)
theorem ok_X6_init : mOk mm_X6_init 0 := ⟨mTb_of 98 (by decide +kernel) rfl, mTb_of 77 (by decide +kernel) rfl, by decide +kernel, by decide⟩
theorem iw_X6 : Cond.instanceMethod yX6_init ∈ mTb := mTb_of 97 (by decide +kernel) rfl
theorem ff_6_0 : mFF RX6 6 0 (.object "NoViewWithoutQuarrel$Scene") := ⟨RX6, TX6, 8, tyX6, rfl, tyX6_ok, nmX6, rfl, rfl, by decide +kernel⟩
theorem ff_6_1 : mFF RX6 6 1 (.object "NoViewWithoutQuarrel$Scene") := ⟨RX6, TX6, 8, tyX6, rfl, tyX6_ok, nmX6, rfl, rfl, by decide +kernel⟩
theorem ff_6_3 : mFF RX6 6 3 (.object "NoViewWithoutQuarrel$Texts") := ⟨RX6, TX6, 8, tyX6, rfl, tyX6_ok, nmX6, rfl, rfl, by decide +kernel⟩
theorem ff_6_4 : mFF RX6 6 4 (.object "NoViewWithoutQuarrel$Reader") := ⟨RX6, TX6, 8, tyX6, rfl, tyX6_ok, nmX6, rfl, rfl, by decide +kernel⟩
theorem ff_6_5 : mFF RX6 6 5 (.object "NoViewWithoutQuarrel$Temper") := ⟨RX6, TX6, 8, tyX6, rfl, tyX6_ok, nmX6, rfl, rfl, by decide +kernel⟩
theorem ff_6_6 : mFF RX6 6 6 (.object "NoViewWithoutQuarrel$Reach") := ⟨RX6, TX6, 8, tyX6, rfl, tyX6_ok, nmX6, rfl, rfl, by decide +kernel⟩
theorem ff_6_7 : mFF RX6 6 7 (.array (.object "NoViewWithoutQuarrel$Sheet")) := ⟨RX6, TX6, 8, tyX6, rfl, tyX6_ok, nmX6, rfl, rfl, by decide +kernel⟩
theorem ob_X7 : Cond.methodLink RX7 1 Lib.objectInit ∈ mTb := mTb_of 904 (by decide +kernel) rfl
def mm_X7_init : mM := (yX7_init, cX7_init, 1, none)
theorem ok_X7_init : mOk mm_X7_init 0 := ⟨List.mem_filter.mpr ⟨List.mem_append_right _ (List.mem_append_right _ (List.mem_append_right _ (List.mem_append_right _ (List.mem_append_left _ (List.mem_of_getElem? (i := 107) rfl))))), rfl⟩, mTb_of 90 (by decide +kernel) rfl, by decide +kernel, by decide⟩
theorem iw_X7 : Cond.instanceMethod yX7_init ∈ mTb := mTb_of 902 (by decide +kernel) rfl
theorem ff_7_0 : mFF RX7 7 0 (.array .int) := ⟨RX7, TX7, 32, tyX7, rfl, tyX7_ok, nmX7, rfl, rfl, by decide +kernel⟩
theorem ff_7_1 : mFF RX7 7 1 (.array .int) := ⟨RX7, TX7, 32, tyX7, rfl, tyX7_ok, nmX7, rfl, rfl, by decide +kernel⟩
theorem ff_7_3 : mFF RX7 7 3 (.array .int) := ⟨RX7, TX7, 32, tyX7, rfl, tyX7_ok, nmX7, rfl, rfl, by decide +kernel⟩
theorem ff_7_9 : mFF RX7 7 9 (.array .int) := ⟨RX7, TX7, 32, tyX7, rfl, tyX7_ok, nmX7, rfl, rfl, by decide +kernel⟩
theorem ff_7_10 : mFF RX7 7 10 (.array .int) := ⟨RX7, TX7, 32, tyX7, rfl, tyX7_ok, nmX7, rfl, rfl, by decide +kernel⟩
theorem ff_7_13 : mFF RX7 7 13 (.array .char) := ⟨RX7, TX7, 32, tyX7, rfl, tyX7_ok, nmX7, rfl, rfl, by decide +kernel⟩
theorem ff_7_14 : mFF RX7 7 14 (.array .int) := ⟨RX7, TX7, 32, tyX7, rfl, tyX7_ok, nmX7, rfl, rfl, by decide +kernel⟩
theorem ff_7_16 : mFF RX7 7 16 (.array .int) := ⟨RX7, TX7, 32, tyX7, rfl, tyX7_ok, nmX7, rfl, rfl, by decide +kernel⟩
theorem ff_7_21 : mFF RX7 7 21 (.array .int) := ⟨RX7, TX7, 32, tyX7, rfl, tyX7_ok, nmX7, rfl, rfl, by decide +kernel⟩
theorem ff_7_22 : mFF RX7 7 22 (.array .int) := ⟨RX7, TX7, 32, tyX7, rfl, tyX7_ok, nmX7, rfl, rfl, by decide +kernel⟩
theorem ff_7_23 : mFF RX7 7 23 (.array .int) := ⟨RX7, TX7, 32, tyX7, rfl, tyX7_ok, nmX7, rfl, rfl, by decide +kernel⟩
theorem ff_7_24 : mFF RX7 7 24 (.array .boolean) := ⟨RX7, TX7, 32, tyX7, rfl, tyX7_ok, nmX7, rfl, rfl, by decide +kernel⟩
theorem ff_7_25 : mFF RX7 7 25 (.array .long) := ⟨RX7, TX7, 32, tyX7, rfl, tyX7_ok, nmX7, rfl, rfl, by decide +kernel⟩
theorem ff_7_26 : mFF RX7 7 26 (.array .long) := ⟨RX7, TX7, 32, tyX7, rfl, tyX7_ok, nmX7, rfl, rfl, by decide +kernel⟩
theorem ff_7_27 : mFF RX7 7 27 (.array .int) := ⟨RX7, TX7, 32, tyX7, rfl, tyX7_ok, nmX7, rfl, rfl, by decide +kernel⟩
theorem ff_7_28 : mFF RX7 7 28 (.array .int) := ⟨RX7, TX7, 32, tyX7, rfl, tyX7_ok, nmX7, rfl, rfl, by decide +kernel⟩
theorem ff_7_29 : mFF RX7 7 29 (.array .int) := ⟨RX7, TX7, 32, tyX7, rfl, tyX7_ok, nmX7, rfl, rfl, by decide +kernel⟩
theorem ff_7_30 : mFF RX7 7 30 (.array .int) := ⟨RX7, TX7, 32, tyX7, rfl, tyX7_ok, nmX7, rfl, rfl, by decide +kernel⟩
theorem ff_7_31 : mFF RX7 7 31 (.array .int) := ⟨RX7, TX7, 32, tyX7, rfl, tyX7_ok, nmX7, rfl, rfl, by decide +kernel⟩
theorem nw_L_7 : mNw RL 7 6 [.null, .null, .int 0, .null, .null, .null, .null, .null] := ⟨RX6, TX6, 8, tyX6, rfl, tyX6_ok, itX6, mTb_of 94 (by decide +kernel) rfl, mTb_of 95 (by decide +kernel) rfl, mTb_of 77 (by decide +kernel) rfl, rfl, by decide⟩
theorem nw_X6_7 : mNw RX6 7 2 [.null, .null, .null, .null, .null, .int 0, .int 0, .int 0] := ⟨RX2, TX2, 8, tyX2, rfl, tyX2_ok, itX2, mTb_of 102 (by decide +kernel) rfl, mTb_of 103 (by decide +kernel) rfl, mTb_of 78 (by decide +kernel) rfl, rfl, by decide⟩
theorem nw_X6_19 : mNw RX6 19 5 [.null, .null, .null, .int 0, .int 0] := ⟨RX5, TX5, 5, tyX5, rfl, tyX5_ok, itX5, mTb_of 147 (by decide +kernel) rfl, mTb_of 148 (by decide +kernel) rfl, mTb_of 79 (by decide +kernel) rfl, rfl, by decide⟩
theorem nw_X6_26 : mNw RX6 26 1 [.null, .null, .int 0, .int 0, .int 0, .int 0, .int 0, .int 0] := ⟨RX1, TX1, 8, tyX1, rfl, tyX1_ok, itX1, mTb_of 170 (by decide +kernel) rfl, mTb_of 171 (by decide +kernel) rfl, mTb_of 80 (by decide +kernel) rfl, rfl, by decide⟩
theorem nw_X6_35 : mNw RX6 35 4 [.null, .null, .int 0, .int 0] := ⟨RX4, TX4, 4, tyX4, rfl, tyX4_ok, itX4, mTb_of 202 (by decide +kernel) rfl, mTb_of 203 (by decide +kernel) rfl, mTb_of 81 (by decide +kernel) rfl, rfl, by decide⟩
theorem nw_X6_42 : mNw RX6 42 0 [.null, .null, .null, .null, .null, .null, .null, .int 0] := ⟨RX0, TX0, 8, tyX0, rfl, tyX0_ok, itX0, mTb_of 223 (by decide +kernel) rfl, mTb_of 224 (by decide +kernel) rfl, mTb_of 82 (by decide +kernel) rfl, rfl, by decide⟩
theorem nw_X6_49 : mNw RX6 49 3 [.null, .int 0, .int 0] := ⟨RX3, TX3, 3, tyX3, rfl, tyX3_ok, itX3, mTb_of 256 (by decide +kernel) rfl, mTb_of 258 (by decide +kernel) rfl, mTb_of 83 (by decide +kernel) rfl, rfl, by decide⟩
theorem nw_L_10 : mNw RL 10 7 [.null, .null, .int 0, .null, .int 0, .int 0, .int 0, .int 0, .int 0, .null, .null, .int 0, .int 0, .null, .null, .int 0, .null, .int 0, .int 0, .int 0, .int 0, .null, .null, .null, .null, .null, .null, .null, .null, .null, .null, .null] := ⟨RX7, TX7, 32, tyX7, rfl, tyX7_ok, itX7, mTb_of 899 (by decide +kernel) rfl, mTb_of 900 (by decide +kernel) rfl, mTb_of 90 (by decide +kernel) rfl, rfl, by decide⟩
section NPUT
variable {E : mE} {M : mM} {p : Program} {l : Launch} {e : Env} {R : Room} {s : State} {m : MethodId} {args : Array Value} {below : List Frame} {meth : Method} {c : Code} {Q : State → Prop} {kc ks pc z : Nat} {loc : List (Nat × Value)} {st : List Value} {A : mA} {L : mJ} {ns : List (Nat × mK)}
theorem k_putI {i k ci j idx : Nat} {fs : List Value} {x y : Int32} (C : nCx E M p s m args meth c z) (hd : decode M.2.1 pc = .ok (.putfield idx, 3)) (hf : mFL M.1.cls idx ci j) (hp : mFP ci j .int) (hk : ns[i]? = some (k, .inr (ci, fs))) (hj : fs[j]? = some (.int y))
    (kk : nG E M p l e R s m args below meth c Q kc ks (pc + 3) loc st (s2 A k j x) L ns) : nG E M p l e R s m args below meth c Q kc ks pc loc (.int x :: .ref k :: st) A L ns := by
  intro H locs ls hP hD hz hS hl
  obtain ⟨Cn, T, N, h1, h2, h3, h4⟩ := hf
  obtain ⟨Cn', T', N', ty0, g1, g2, g3, g4, g6⟩ := hp
  cases h1.symm.trans g1
  have tb := q_tb C.1
  refine va_put (H0 := H) (v := .int x) C.1.1 C.1.2.1 tb h3 ty0 g2 g3 C.1.2.2.2.2.2.1 C.1.2.2.2.2.2.2.2.1 hP hD ⟨Nat.le_refl _, fun _ _ _ => rfl, hS.2.2⟩ i (nws_get hk) h1 j h2 (tb _ h4) (fun x hx => hx) g4 g6 rfl rfl (by rw [mfs_len]; exact (List.getElem?_eq_some_iff.mp hj).1) hd (fun H1 locs1 hP1 hD1 hS1 => ?_)
  rw [mfs_set fs 0 j y hj, Nat.zero_add, nws_mem hD hk (X := .inr (ci, mfs E (s2 A k j x) k 0 fs)) (A' := s2 A k j x) (L' := L) (fun q hq => s2_ne hq) (fun _ _ => rfl) rfl] at hP1 hD1
  refine w_bound (fun hb => ?_)
  exact kk H1 locs1 ls hP1 hD1 (Nat.le_antisymm hb (by rw [← hz]; exact hS1.1)) (hS.tr hS1) hl
end NPUT
theorem nb_X0 {E : mE} {A : mA} {L : mJ} {ns : List (Nat × mK)} {z k a0 a1 a2 a3 a4 a5 a6 : Nat} (hA : ∀ q, q ∈ ([a0, a1, a2, a3, a4, a5, a6] : List Nat) → A q = fun _ => 0) (hL : ∀ q, q ∈ ([a0, a1, a2, a3, a4, a5, a6] : List Nat) → L q = fun _ => 0) (h0 : mad E a0 = z + 0) (h1 : mad E a1 = z + 1) (h2 : mad E a2 = z + 2) (h3 : mad E a3 = z + 3) (h4 : mad E a4 = z + 4) (h5 : mad E a5 = z + 5) (h6 : mad E a6 = z + 6) : nC E mm_X0_init { frames := 1, cells := 7, slots := 1200, locals := 12 } 7 1200 [.ref k] A L ((k, .inr (0, [.null, .null, .null, .null, .null, .null, .null, .int 0])) :: ns) z none A ((a6, .inl (1, 100, [])) :: (a5, .inl (1, 100, [])) :: (a4, .inl (0, 600, [])) :: (a3, .inl (0, 100, [])) :: (a2, .inl (0, 100, [])) :: (a1, .inl (0, 100, [])) :: (a0, .inl (0, 100, [])) :: (k, .inr (0, [.ref a0, .ref a1, .ref a2, .ref a3, .ref a4, .ref a5, .ref a6, .int 0])) :: ns) := by
  refine nC.enter (by decide) (Nat.le_of_ble_eq_true rfl) (fun p l e s m args below meth c C => ?_)
  refine k_aload C dX0_init_0 rfl ?_
  refine k_obj C dX0_init_1 ob_X0 ob_i ob_c (by decide) (by decide) ?_
  refine k_aload C dX0_init_4 rfl ?_
  refine k_bipush (v := nI 100) C dX0_init_5 rfl ?_
  refine k_newI (k := a0) C dX0_init_7 aw_int (by decide) (hA a0 (by simp)) h0 (by decide) (by decide) ?_
  refine k_put (i := 1) C dX0_init_9 rfl fl_X0_9 ff_0_0 (fun _ => rfl) (fun _ => rfl) rfl (Nat.le_of_ble_eq_true rfl) rfl ?_
  refine k_aload C dX0_init_12 rfl ?_
  refine k_bipush (v := nI 100) C dX0_init_13 rfl ?_
  refine k_newI (k := a1) C dX0_init_15 aw_int (by decide) (hA a1 (by simp)) h1 (by decide) (by decide) ?_
  refine k_put (i := 2) C dX0_init_17 rfl fl_X0_15 ff_0_1 (fun _ => rfl) (fun _ => rfl) rfl (Nat.le_of_ble_eq_true rfl) rfl ?_
  refine k_aload C dX0_init_20 rfl ?_
  refine k_bipush (v := nI 100) C dX0_init_21 rfl ?_
  refine k_newI (k := a2) C dX0_init_23 aw_int (by decide) (hA a2 (by simp)) h2 (by decide) (by decide) ?_
  refine k_put (i := 3) C dX0_init_25 rfl fl_X0_18 ff_0_2 (fun _ => rfl) (fun _ => rfl) rfl (Nat.le_of_ble_eq_true rfl) rfl ?_
  refine k_aload C dX0_init_28 rfl ?_
  refine k_bipush (v := nI 100) C dX0_init_29 rfl ?_
  refine k_newI (k := a3) C dX0_init_31 aw_int (by decide) (hA a3 (by simp)) h3 (by decide) (by decide) ?_
  refine k_put (i := 4) C dX0_init_33 rfl fl_X0_21 ff_0_3 (fun _ => rfl) (fun _ => rfl) rfl (Nat.le_of_ble_eq_true rfl) rfl ?_
  refine k_aload C dX0_init_36 rfl ?_
  refine k_sipush (v := nI 600) C dX0_init_37 rfl ?_
  refine k_newI (k := a4) C dX0_init_40 aw_int (by decide) (hA a4 (by simp)) h4 (by decide) (by decide) ?_
  refine k_put (i := 5) C dX0_init_42 rfl fl_X0_24 ff_0_4 (fun _ => rfl) (fun _ => rfl) rfl (Nat.le_of_ble_eq_true rfl) rfl ?_
  refine k_aload C dX0_init_45 rfl ?_
  refine k_bipush (v := nI 100) C dX0_init_46 rfl ?_
  refine k_newJ (k := a5) C dX0_init_48 aw_long (by decide) (hL a5 (by simp)) h5 (by decide) (by decide) ?_
  refine k_put (i := 6) C dX0_init_50 rfl fl_X0_27 ff_0_5 (fun _ => rfl) (fun _ => rfl) rfl (Nat.le_of_ble_eq_true rfl) rfl ?_
  refine k_aload C dX0_init_53 rfl ?_
  refine k_bipush (v := nI 100) C dX0_init_54 rfl ?_
  refine k_newJ (k := a6) C dX0_init_56 aw_long (by decide) (hL a6 (by simp)) h6 (by decide) (by decide) ?_
  refine k_put (i := 7) C dX0_init_58 rfl fl_X0_31 ff_0_6 (fun _ => rfl) (fun _ => rfl) rfl (Nat.le_of_ble_eq_true rfl) rfl ?_
  exact k_ret C dX0_init_61 rfl rfl rfl rfl rfl
theorem nb_X1 {E : mE} {A : mA} {L : mJ} {ns : List (Nat × mK)} {z k t a0 : Nat} (hA : ∀ q, q ∈ ([a0] : List Nat) → A q = fun _ => 0) (h0 : mad E a0 = z + 0) : nC E mm_X1_init { frames := 1, cells := 1, slots := 160, locals := 12 } 1 160 [.ref k, .ref t] A L ((k, .inr (1, [.null, .null, .int 0, .int 0, .int 0, .int 0, .int 0, .int 0])) :: ns) z none A ((a0, .inl (0, 160, [])) :: (k, .inr (1, [.ref t, .ref a0, .int 0, .int 0, .int 0, .int 0, .int 0, .int 0])) :: ns) := by
  refine nC.enter (by decide) (Nat.le_of_ble_eq_true rfl) (fun p l e s m args below meth c C => ?_)
  refine k_aload C dX1_init_0 rfl ?_
  refine k_obj C dX1_init_1 ob_X1 ob_i ob_c (by decide) (by decide) ?_
  refine k_aload C dX1_init_4 rfl ?_
  refine k_sipush (v := nI 160) C dX1_init_5 rfl ?_
  refine k_newI (k := a0) C dX1_init_8 aw_int (by decide) (hA a0 (by simp)) h0 (by decide) (by decide) ?_
  refine k_put (i := 1) C dX1_init_10 rfl fl_X1_9 ff_1_1 (fun _ => rfl) (fun _ => rfl) rfl (Nat.le_of_ble_eq_true rfl) rfl ?_
  refine k_aload C dX1_init_13 rfl ?_
  refine k_aload C dX1_init_14 rfl ?_
  refine k_put (i := 1) C dX1_init_15 rfl fl_X1_15 ff_1_0 (fun _ => rfl) (fun _ => rfl) rfl (Nat.le_of_ble_eq_true rfl) rfl ?_
  exact k_ret C dX1_init_18 rfl rfl rfl rfl rfl
theorem nb_X2 {E : mE} {A : mA} {L : mJ} {ns : List (Nat × mK)} {z k a0 a1 a2 a3 a4 : Nat} (hA : ∀ q, q ∈ ([a0, a1, a2, a3, a4] : List Nat) → A q = fun _ => 0) (h0 : mad E a0 = z + 0) (h1 : mad E a1 = z + 1) (h2 : mad E a2 = z + 2) (h3 : mad E a3 = z + 3) (h4 : mad E a4 = z + 4) : nC E mm_X2_init { frames := 1, cells := 5, slots := 60, locals := 12 } 5 60 [.ref k] A L ((k, .inr (2, [.null, .null, .null, .null, .null, .int 0, .int 0, .int 0])) :: ns) z none A ((a4, .inl (0, 5, [])) :: (a3, .inl (0, 5, [])) :: (a2, .inl (0, 5, [])) :: (a1, .inl (0, 5, [])) :: (a0, .inl (0, 40, [])) :: (k, .inr (2, [.ref a0, .ref a1, .ref a2, .ref a3, .ref a4, .int 0, .int 0, .int 0])) :: ns) := by
  refine nC.enter (by decide) (Nat.le_of_ble_eq_true rfl) (fun p l e s m args below meth c C => ?_)
  refine k_aload C dX2_init_0 rfl ?_
  refine k_obj C dX2_init_1 ob_X2 ob_i ob_c (by decide) (by decide) ?_
  refine k_aload C dX2_init_4 rfl ?_
  refine k_bipush (v := nI 40) C dX2_init_5 rfl ?_
  refine k_newI (k := a0) C dX2_init_7 aw_int (by decide) (hA a0 (by simp)) h0 (by decide) (by decide) ?_
  refine k_put (i := 1) C dX2_init_9 rfl fl_X2_9 ff_2_0 (fun _ => rfl) (fun _ => rfl) rfl (Nat.le_of_ble_eq_true rfl) rfl ?_
  refine k_aload C dX2_init_12 rfl ?_
  refine k_iconst (v := nI 5) C dX2_init_13 rfl ?_
  refine k_newI (k := a1) C dX2_init_14 aw_int (by decide) (hA a1 (by simp)) h1 (by decide) (by decide) ?_
  refine k_put (i := 2) C dX2_init_16 rfl fl_X2_15 ff_2_1 (fun _ => rfl) (fun _ => rfl) rfl (Nat.le_of_ble_eq_true rfl) rfl ?_
  refine k_aload C dX2_init_19 rfl ?_
  refine k_iconst (v := nI 5) C dX2_init_20 rfl ?_
  refine k_newI (k := a2) C dX2_init_21 aw_int (by decide) (hA a2 (by simp)) h2 (by decide) (by decide) ?_
  refine k_put (i := 3) C dX2_init_23 rfl fl_X2_18 ff_2_2 (fun _ => rfl) (fun _ => rfl) rfl (Nat.le_of_ble_eq_true rfl) rfl ?_
  refine k_aload C dX2_init_26 rfl ?_
  refine k_iconst (v := nI 5) C dX2_init_27 rfl ?_
  refine k_newI (k := a3) C dX2_init_28 aw_int (by decide) (hA a3 (by simp)) h3 (by decide) (by decide) ?_
  refine k_put (i := 4) C dX2_init_30 rfl fl_X2_21 ff_2_3 (fun _ => rfl) (fun _ => rfl) rfl (Nat.le_of_ble_eq_true rfl) rfl ?_
  refine k_aload C dX2_init_33 rfl ?_
  refine k_iconst (v := nI 5) C dX2_init_34 rfl ?_
  refine k_newI (k := a4) C dX2_init_35 aw_int (by decide) (hA a4 (by simp)) h4 (by decide) (by decide) ?_
  refine k_put (i := 5) C dX2_init_37 rfl fl_X2_24 ff_2_4 (fun _ => rfl) (fun _ => rfl) rfl (Nat.le_of_ble_eq_true rfl) rfl ?_
  exact k_ret C dX2_init_40 rfl rfl rfl rfl rfl
theorem nb_X3 {E : mE} {A : mA} {L : mJ} {ns : List (Nat × mK)} {z k a0 : Nat} (hA : ∀ q, q ∈ ([a0] : List Nat) → A q = fun _ => 0) (h0 : mad E a0 = z + 0) : nC E mm_X3_init { frames := 1, cells := 1, slots := 40, locals := 12 } 1 40 [.ref k] A L ((k, .inr (3, [.null, .int 0, .int 0])) :: ns) z none (s2 A k 1 (-1)) ((a0, .inl (0, 40, [])) :: (k, .inr (3, [.ref a0, .int 0, .int 0])) :: ns) := by
  refine nC.enter (by decide) (Nat.le_of_ble_eq_true rfl) (fun p l e s m args below meth c C => ?_)
  refine k_aload C dX3_init_0 rfl ?_
  refine k_obj C dX3_init_1 ob_X3 ob_i ob_c (by decide) (by decide) ?_
  refine k_aload C dX3_init_4 rfl ?_
  refine k_bipush (v := nI 40) C dX3_init_5 rfl ?_
  refine k_newI (k := a0) C dX3_init_7 aw_int (by decide) (hA a0 (by simp)) h0 (by decide) (by decide) ?_
  refine k_put (i := 1) C dX3_init_9 rfl fl_X3_9 ff_3_0 (fun _ => rfl) (fun _ => rfl) rfl (Nat.le_of_ble_eq_true rfl) rfl ?_
  refine k_aload C dX3_init_12 rfl ?_
  refine k_iconst (v := (-1)) C dX3_init_13 rfl ?_
  refine k_putI (i := 1) C dX3_init_14 fl_X3_15 fp_3_1 rfl rfl ?_
  exact k_ret C dX3_init_17 rfl rfl rfl rfl rfl
theorem nb_X4 {E : mE} {A : mA} {L : mJ} {ns : List (Nat × mK)} {z k t a0 : Nat} (hA : ∀ q, q ∈ ([a0] : List Nat) → A q = fun _ => 0) (h0 : mad E a0 = z + 0) : nC E mm_X4_init { frames := 1, cells := 1, slots := 6, locals := 12 } 1 6 [.ref k, .ref t] A L ((k, .inr (4, [.null, .null, .int 0, .int 0])) :: ns) z none A ((a0, .inl (0, 6, [])) :: (k, .inr (4, [.ref t, .ref a0, .int 0, .int 0])) :: ns) := by
  refine nC.enter (by decide) (Nat.le_of_ble_eq_true rfl) (fun p l e s m args below meth c C => ?_)
  refine k_aload C dX4_init_0 rfl ?_
  refine k_obj C dX4_init_1 ob_X4 ob_i ob_c (by decide) (by decide) ?_
  refine k_aload C dX4_init_4 rfl ?_
  refine k_bipush (v := nI 6) C dX4_init_5 rfl ?_
  refine k_newI (k := a0) C dX4_init_7 aw_int (by decide) (hA a0 (by simp)) h0 (by decide) (by decide) ?_
  refine k_put (i := 1) C dX4_init_9 rfl fl_X4_9 ff_4_1 (fun _ => rfl) (fun _ => rfl) rfl (Nat.le_of_ble_eq_true rfl) rfl ?_
  refine k_aload C dX4_init_12 rfl ?_
  refine k_aload C dX4_init_13 rfl ?_
  refine k_put (i := 1) C dX4_init_14 rfl fl_X4_15 ff_4_0 (fun _ => rfl) (fun _ => rfl) rfl (Nat.le_of_ble_eq_true rfl) rfl ?_
  exact k_ret C dX4_init_17 rfl rfl rfl rfl rfl
theorem nb_X5 {E : mE} {A : mA} {L : mJ} {ns : List (Nat × mK)} {z k a0 a1 a2 : Nat} (hA : ∀ q, q ∈ ([a0, a1, a2] : List Nat) → A q = fun _ => 0) (h0 : mad E a0 = z + 0) (h1 : mad E a1 = z + 1) (h2 : mad E a2 = z + 2) : nC E mm_X5_init { frames := 1, cells := 3, slots := 1138, locals := 12 } 3 1138 [.ref k] A L ((k, .inr (5, [.null, .null, .null, .int 0, .int 0])) :: ns) z none A ((a2, .inl (0, 160, [])) :: (a1, .inl (0, 18, [])) :: (a0, .inl (0, 960, [])) :: (k, .inr (5, [.ref a0, .ref a1, .ref a2, .int 0, .int 0])) :: ns) := by
  refine nC.enter (by decide) (Nat.le_of_ble_eq_true rfl) (fun p l e s m args below meth c C => ?_)
  refine k_aload C dX5_init_0 rfl ?_
  refine k_obj C dX5_init_1 ob_X5 ob_i ob_c (by decide) (by decide) ?_
  refine k_aload C dX5_init_4 rfl ?_
  refine k_sipush (v := nI 960) C dX5_init_5 rfl ?_
  refine k_newI (k := a0) C dX5_init_8 aw_int (by decide) (hA a0 (by simp)) h0 (by decide) (by decide) ?_
  refine k_put (i := 1) C dX5_init_10 rfl fl_X5_9 ff_5_0 (fun _ => rfl) (fun _ => rfl) rfl (Nat.le_of_ble_eq_true rfl) rfl ?_
  refine k_aload C dX5_init_13 rfl ?_
  refine k_bipush (v := nI 18) C dX5_init_14 rfl ?_
  refine k_newI (k := a1) C dX5_init_16 aw_int (by decide) (hA a1 (by simp)) h1 (by decide) (by decide) ?_
  refine k_put (i := 2) C dX5_init_18 rfl fl_X5_15 ff_5_1 (fun _ => rfl) (fun _ => rfl) rfl (Nat.le_of_ble_eq_true rfl) rfl ?_
  refine k_aload C dX5_init_21 rfl ?_
  refine k_sipush (v := nI 160) C dX5_init_22 rfl ?_
  refine k_newI (k := a2) C dX5_init_25 aw_int (by decide) (hA a2 (by simp)) h2 (by decide) (by decide) ?_
  refine k_put (i := 3) C dX5_init_27 rfl fl_X5_18 ff_5_2 (fun _ => rfl) (fun _ => rfl) rfl (Nat.le_of_ble_eq_true rfl) rfl ?_
  exact k_ret C dX5_init_30 rfl rfl rfl rfl rfl
