/-! words that every method has; the facts of the outside: nest links, texts, static rows -/
def mTb : List Cond := lw_tbl.filter goodWord
theorem mTb_of {w : Cond} (i : Nat) (h : lw_tbl[i]? = some w) (hg : goodWord w = true) : w ∈ mTb := List.mem_filter.mpr ⟨List.mem_of_getElem? h, hg⟩
theorem mTb_in {w : Cond} (h : w ∈ mTb) : w ∈ lw_tbl := (List.mem_filter.mp h).1
theorem mTb_good {w : Cond} (h : w ∈ mTb) : (w.onTables && w.keeps) = true ∨ ∃ ty, w = .arrayClass ty := good_of_word (List.mem_filter.mp h).2
def mWs (M : mM) : List Cond := .code M.1 M.2.1 M.2.2.1 M.2.2.2 :: mTb
def mCd (M : mM) : Prop := Cond.code M.1 M.2.1 M.2.2.1 M.2.2.2 ∈ mTb
theorem mWs_good {M M' : mM} (h : mCd M') : GoodIn (mWs M) (mWs M') := by
  intro w hw
  rcases List.mem_cons.mp hw with rfl | hw
  · exact ⟨List.mem_cons_of_mem _ h, mTb_good h⟩
  · exact ⟨List.mem_cons_of_mem _ hw, mTb_good hw⟩
def mNL : List (String × Nat × MethodName × String) := [("NoViewWithoutQuarrel$Reader", 23, yX6_within, "NoViewWithoutQuarrel"), ("NoViewWithoutQuarrel$Texts", 28, yX6_within, "NoViewWithoutQuarrel"), ("NoViewWithoutQuarrel$Scene", 43, yX6_within, "NoViewWithoutQuarrel"), ("NoViewWithoutQuarrel$Temper", 61, yX6_bounded, "NoViewWithoutQuarrel"), ("NoViewWithoutQuarrel$Reach", 64, yX6_within, "NoViewWithoutQuarrel"), ("NoViewWithoutQuarrel$Sheet", 32, yX6_within, "NoViewWithoutQuarrel"), ("NoViewWithoutQuarrel$Sheet", 19, yX6_bounded, "NoViewWithoutQuarrel")]
/-- the texts: FIRST_TEXT, SPELLINGS, SIGNS -/
def mT0 : List Int32 := [104, 101, 97, 116, 115, 32, 53, 32, 43, 32, 119, 111, 114, 100, 32, 42, 32, 51, 32, 59, 32, 99, 111, 111, 108, 115, 32, 50, 32, 59, 32, 102, 97, 114, 32, 97, 110, 103, 101, 114, 32, 59]
def mT1 : List Int32 := [119, 111, 114, 100, 32, 32, 32, 97, 110, 103, 101, 114, 32, 32, 110, 117, 109, 98, 101, 114, 32, 104, 111, 117, 114, 32, 32, 32, 116, 104, 105, 110, 103, 115, 32, 98, 101, 110, 99, 104, 32, 32, 104, 101, 97, 116, 115, 32, 32, 99, 111, 111, 108, 115, 32, 32, 102, 97, 114, 32, 32, 32, 32, 111, 114, 32, 32, 32, 32, 32, 97, 110, 100, 32, 32, 32, 32, 110, 111, 116, 32, 32, 32, 32]
def mT2 : List Int32 := [40, 41, 59, 43, 45, 42, 60, 61]
def mTl : List Nat := [42, 84, 8]
def mTx : List (List Int32) := [mT0, mT1, mT2]
def mAb : Nat → Int32 := fun j => ([-1, 0, 0, 1, 2, 0] : List Int32).getD j 0
/-- cells outside the layout: 1001 ABOVE, 1002 .. 1004 the texts, 1005 .. 1007 their rows -/
def mX (E : mE) (U : State) (H : Heap) : Prop :=
  (∀ q ∈ mNL, va_Nw (.methodLinkNest q.1 q.2.1 q.2.2.1 q.2.2.2) U) ∧
  vk_S 3 mTl mTx (fun i => mad E (1002 + i)) (fun i => mad E (1005 + i)) (mfr E) U H ∧
  vk_R "NoViewWithoutQuarrel" 56 "heats 5 + word * 3 ; cools 2 ; far anger ;" (mad E 1002) U ∧
  vk_R "NoViewWithoutQuarrel$Reader" 106 "word   anger  number hour   things bench  heats  cools  far    or     and    not    " (mad E 1003) U ∧
  vk_R "NoViewWithoutQuarrel$Reader" 99 "();+-*<=" (mad E 1004) U ∧
  va_Z "NoViewWithoutQuarrel" "ABOVE" "[I" (.ref (mad E 1001)) (mfr E) U H ∧
  va_T .int (mad E 1001) 6 (fun j => .int (mAb j)) (mfr E) U H ∧
  va_Z "java/lang/String" "COMPACT_STRINGS" "Z" (.int 1) (mfr E) U H ∧
  (va_Z "jdk/internal/util/Preconditions" "SIOOBE_FORMATTER" "Ljava/util/function/BiFunction;" .null (mfr E) U H ∨ va_Z "jdk/internal/util/Preconditions" "SIOOBE_FORMATTER" "Ljava/util/function/BiFunction;" (.ref (mad E 1008)) (mfr E) U H)
theorem mX.warm {E : mE} {s U : State} {H : Heap} (hW : s.WarmedH U.vm) (h : mX E s H) : mX E U H := by
  obtain ⟨h1, h2, h3, h4, h5, h6, h7, h8, h9⟩ := h
  exact ⟨fun q hq => va_Nw.warmM hW (h1 q hq), h2.moved hW.alike, h3.warm hW, h4.warm hW, h5.warm hW, h6.moved hW.alike, h7.moved hW.alike, h8.moved hW.alike, h9.imp (fun z => z.moved hW.alike) (fun z => z.moved hW.alike)⟩
theorem mX.calls {E : mE} {U : State} {H : Heap} {g : JFrame} {mk : MethodId} {a : Array Value} (h : mX E U H) : mX E (U.calling g mk a) H := by
  obtain ⟨h1, h2, h3, h4, h5, h6, h7, h8, h9⟩ := h
  have hv : U.vm = (U.calling g mk a).vm := rfl
  have hal : U.vm.Alike (U.calling g mk a).vm := Vm.Alike.refl U.vm
  exact ⟨fun q hq => (h1 q hq).same rfl hv, h2.moved hal, h3.same hv.symm, h4.same hv.symm, h5.same hv.symm, h6.moved hal, h7.moved hal, h8.moved hal, h9.imp (fun z => z.moved hal) (fun z => z.moved hal)⟩
theorem mX.kept {E : mE} {U : State} {H H1 : Heap} (h : mX E U H) (hq : ∀ a : Nat, a < H.size → ¬ mfr E a → H1[a]? = H[a]?) : mX E U H1 := by
  obtain ⟨h1, h2, h3, h4, h5, h6, h7, h8, h9⟩ := h
  exact ⟨h1, h2.kept hq, h3, h4, h5, h6.kept hq, h7.kept hq, h8.kept hq, h9.imp (fun z => z.kept hq) (fun z => z.kept hq)⟩
def mty (E : mE) : List (ClassId × FieldType) := [(E.2.1 0, .int), (E.2.1 1, .long), (E.2.1 2, .char), (E.2.1 3, .boolean), (E.2.1 4, .object "NoViewWithoutQuarrel$Sheet")]
def mPre (E : mE) (A : mA) (L : mJ) (U : State) : Prop := va_P E.1 vwCl (mws E A L) U.heap ∧ va_K E.1 vwCl (mty E) U ∧ mX E U U.heap
abbrev mP : Type := Option Value → mA → mJ → Prop
def mRm (d : Nat) : Room := { frames := d, cells := 0, slots := 0, locals := 64 * d }
def mQ (E : mE) (Ph : mP) : Array Value → State → Outcome → State → Prop := fun _ st o t => (∃ (r : Option Value) (A' : mA) (L' : mJ), o = .returned (r.map (mup E)) ∧ Ph r A' L' ∧ va_P E.1 vwCl (mws E A' L') t.heap) ∧ va_F (mfr E) st t
/-- a method's contract over the memory -/
def qC (E : mE) (M : mM) (d : Nat) (as : List Value) (A : mA) (L : mJ) (Ph : mP) : Prop := mWf E → ∀ l : Launch, Met l M.1 (mWs M) (mRm d) (va_Pc (as.map (mup E)) (mPre E A L)) (mQ E Ph) 0 0 (mfr E)
def mCx (E : mE) (M : mM) (p : Program) (s : State) (m : MethodId) (args : Array Value) (meth : Method) (c : Code) : Prop :=
  p.tables.exec = Jvm.exec ∧ c.code = M.2.1 ∧ c.maxLocals = M.2.2.1 ∧ meth.sig.returnType = M.2.2.2 ∧ meth.locks = false ∧ s.vm.findClass M.1.cls = some m.cls ∧ (∀ w ∈ mWs M, w.before args s = true) ∧ va_K E.1 vwCl (mty E) s ∧ mX E s s.heap
/-- the frame of a method, at an instruction -/
def qG (E : mE) (M : mM) (d : Nat) (pc : Nat) (loc : List (Nat × Value)) (st : List Value) (A : mA) (L : mJ) (Ph : mP) : Prop :=
  mWf E → ∀ (p : Program) (l : Launch) (e : Env) (s : State) (m : MethodId) (args : Array Value) (below : List Frame) (meth : Method) (c : Code) (H : Heap) (locs : List Loc) (ls : Array Slot), mCx E M p s m args meth c → va_P E.1 vwCl (mws E A L) H → va_S (mfr E) s.heap H locs → lv_has ls M.2.2.1 (loc.map (fun q => (q.1, mup E q.2))) →
    W p l e (mRm d) s m args below meth c H locs 0 0 (MQ below (mQ E Ph) args s 0 0 (mfr E)) (F0 m pc ls (st.map (mup E)))
theorem mup_cat (E : mE) (v : Value) : (mup E v).category = v.category := by cases v <;> rfl
theorem lv_args_up (E : mE) : ∀ (i : Nat) (as : List Value), lv_args i (as.map (mup E)) = (lv_args i as).map (fun q => (q.1, mup E q.2))
  | _, [] => rfl
  | i, v :: vs => by
    simp only [List.map_cons, lv_args, mup_cat]
    rw [lv_args_up E _ vs]
theorem lg_sl_up (E : mE) : ∀ (as : List Value), (lg_sl (as.map (mup E))).length = (lg_sl as).length
  | [] => rfl
  | v :: vs => by
    have ih := lg_sl_up E vs
    simp only [lg_sl, List.map_cons, List.flatMap_cons, List.length_append, mup_cat] at ih ⊢
    rw [ih]
    split <;> rfl
theorem qC.enter {E : mE} {M : mM} {d : Nat} {as : List Value} {A : mA} {L : mJ} {Ph : mP} (hy : plainName M.1.cls = true) (hsz : (lg_sl as).length ≤ M.2.2.1) (h : qG E M d 0 (lv_args 0 as) [] A L Ph) : qC E M d as A L Ph := by
  intro hw l
  refine Met.ofW (cc := M.2.1) (maxL := M.2.2.1) (ret := M.2.2.2) hy rfl ?_
  intro p e s m args below meth c s₁ B hml hv
  obtain ⟨rfl, hP, hK, hX⟩ := hv
  have hts := atoms_spec (ws := mWs M) B.pre
  have hown : s.vm.findClass M.1.cls = some m.cls := findClass_of_methodNamed B.named
  have hl := lv_entry (as.map (mup E)) (n := M.2.2.1) (by rw [lg_sl_up]; exact hsz)
  rw [lv_args_up] at hl
  rw [lg_entry_eq]
  exact h hw p l e s m _ below meth c s.heap [] _ ⟨B.exec, B.bytes, hml, B.returns, B.notSynchronized, hown, hts, hK, hX⟩ hP va_S.rf hl
theorem qC.mono {E : mE} {M : mM} {d : Nat} {as : List Value} {A : mA} {L : mJ} {Ph Ps : mP} (h : qC E M d as A L Ph) (hi : ∀ r A' L', Ph r A' L' → Ps r A' L') : qC E M d as A L Ps := by
  intro hw l p e ha hc hk s m args below hf happ hpre
  intro hK
  obtain ⟨k, o, h1, h2, h3, ⟨hq, hF⟩, h5⟩ := h hw l p e ha hc hk s m args below hf happ hpre hK
  obtain ⟨r, A', L', e1, e2, e3⟩ := hq
  exact ⟨k, o, h1, h2, h3, ⟨⟨r, A', L', e1, hi r A' L' e2, e3⟩, hF⟩, h5⟩
