/-! THE CONSTRUCTORS: a world that grows, newest cell first; its addresses are foretold -/
def nws (E : mE) (A : mA) (L : mJ) (ns : List (Nat × mK)) : va_W := ns.map (fun q => (mad E q.1, mce E A L q.1 q.2))
theorem nws_get {E : mE} {A : mA} {L : mJ} {ns : List (Nat × mK)} {i k : Nat} {e : mK} (h : ns[i]? = some (k, e)) : (nws E A L ns)[i]? = some (mad E k, mce E A L k e) := by
  simp [nws, h]
theorem nws_set {E : mE} {A : mA} {L : mJ} {ns : List (Nat × mK)} {i k : Nat} {e : mK} : (nws E A L ns).set i (mad E k, mce E A L k e) = nws E A L (ns.set i (k, e)) := by
  simp only [nws, List.map_set]
theorem nws_mem {E : mE} {A A' : mA} {L L' : mJ} {ns : List (Nat × mK)} {F : Nat → Prop} {i k : Nat} {e : mK} {X : va_E} (hD : va_D F (nws E A L ns)) (hi : ns[i]? = some (k, e)) (h1 : ∀ j, j ≠ k → A' j = A j) (h2 : ∀ j, j ≠ k → L' j = L j) (hX : mce E A' L' k e = X) : (nws E A L ns).set i (mad E k, X) = nws E A' L' ns := by
  subst hX
  apply List.ext_getElem?
  intro j
  by_cases hj : i = j
  · subst hj
    have hl : i < (nws E A L ns).length := (List.getElem?_eq_some_iff.mp (nws_get (E := E) (A := A) (L := L) hi)).1
    rw [List.getElem?_set_self hl, nws_get hi]
  · rw [List.getElem?_set_ne hj]
    cases h : ns[j]? with
    | none => simp [nws, h]
    | some q =>
      obtain ⟨k', e'⟩ := q
      rw [nws_get h, nws_get h]
      have hk : k' ≠ k := fun z => hj (hD.1 i j _ _ (nws_get hi) (nws_get h) (by rw [z]))
      rw [mce_cong (h1 k' hk) (h2 k' hk)]
theorem nP_cons {D : va_G} {cl : List vw_C} {ws : va_W} {q : Nat} {e : va_E} {H : Heap} (h : va_P D cl ws H) (h1 : va_at D cl (q, e) H) : va_P D cl ((q, e) :: ws) H := by
  intro i x hi
  cases i with
  | zero => simp at hi; subst hi; exact h1
  | succ i => exact h i x (by simpa using hi)
theorem nD_cons {F : Nat → Prop} {ws : va_W} {q : Nat} {e : va_E} (hD : va_D F ws) (hlt : ∀ (i : Nat) (x : Nat × va_E), ws[i]? = some x → x.1 < q) (hF : F q) : va_D F ((q, e) :: ws) := by
  refine ⟨fun i j x y hi hj hxy => ?_, fun k x hk => ?_⟩
  · cases i with
    | zero =>
      cases j with
      | zero => rfl
      | succ j =>
        simp at hi hj
        subst hi
        have := hlt j y hj
        exact absurd hxy (Nat.ne_of_gt this)
    | succ i =>
      cases j with
      | zero =>
        simp at hi hj
        subst hj
        have := hlt i x hi
        exact absurd hxy (Nat.ne_of_lt this)
      | succ j =>
        simp at hi hj
        rw [hD.1 i j x y hi hj hxy]
  · cases k with
    | zero => simp at hk; subst hk; exact hF
    | succ k => exact hD.2 k x (by simpa using hk)
theorem ra_prim {U : State} {cA : ClassId} (atype : ArrayType) (h : va_RA U cA (newarray.typeOf atype)) : U.vm.findClass ("[" ++ (newarray.typeOf atype).toString) = some cA := by
  cases atype <;> exact h
def nPre (E : mE) (A : mA) (L : mJ) (ns : List (Nat × mK)) (z : Nat) (U : State) : Prop := va_P E.1 vwCl (nws E A L ns) U.heap ∧ va_D (mfr E) (nws E A L ns) ∧ U.heap.size = z ∧ (∀ q, z ≤ q → mfr E q) ∧ va_K E.1 vwCl (mty E) U ∧ mX E U U.heap
def nQ (E : mE) (r : Option Value) (A' : mA) (L : mJ) (ns' : List (Nat × mK)) (z' : Nat) : Array Value → State → Outcome → State → Prop := fun _ st o t => (o = .returned (r.map (mup E)) ∧ va_P E.1 vwCl (nws E A' L ns') t.heap ∧ va_D (mfr E) (nws E A' L ns') ∧ t.heap.size = z') ∧ va_F (mfr E) st t
def nC (E : mE) (M : mM) (R : Room) (mc ms : Nat) (as : List Value) (A : mA) (L : mJ) (ns : List (Nat × mK)) (z : Nat) (r : Option Value) (A' : mA) (ns' : List (Nat × mK)) : Prop := ∀ l : Launch, Met l M.1 (mWs M) R (va_Pc (as.map (mup E)) (nPre E A L ns z)) (nQ E r A' L ns' (z + mc)) mc ms (mfr E)
def nCx (E : mE) (M : mM) (p : Program) (s : State) (m : MethodId) (args : Array Value) (meth : Method) (c : Code) (z : Nat) : Prop := mCx E M p s m args meth c ∧ s.heap.size = z ∧ (∀ q, z ≤ q → mfr E q) ∧ meth.name = M.1.name
def nG (E : mE) (M : mM) (p : Program) (l : Launch) (e : Env) (R : Room) (s : State) (m : MethodId) (args : Array Value) (below : List Frame) (meth : Method) (c : Code) (Q : State → Prop) (kc ks pc : Nat) (loc : List (Nat × Value)) (st : List Value) (A : mA) (L : mJ) (ns : List (Nat × mK)) : Prop :=
  ∀ (H : Heap) (locs : List Loc) (ls : Array Slot), va_P E.1 vwCl (nws E A L ns) H → va_D (mfr E) (nws E A L ns) → H.size = s.heap.size + kc → va_S (mfr E) s.heap H locs → lv_has ls M.2.2.1 (loc.map (fun q => (q.1, mup E q.2))) →
    W p l e R s m args below meth c H locs kc ks Q (F0 m pc ls (st.map (mup E)))
theorem nC.enter {E : mE} {M : mM} {R : Room} {mc ms : Nat} {as : List Value} {A A' : mA} {L : mJ} {ns ns' : List (Nat × mK)} {z : Nat} {r : Option Value} (hy : plainName M.1.cls = true) (hsz : (lg_sl as).length ≤ M.2.2.1) (h : ∀ (p : Program) (l : Launch) (e : Env) (s : State) (m : MethodId) (args : Array Value) (below : List Frame) (meth : Method) (c : Code), nCx E M p s m args meth c z → nG E M p l e R s m args below meth c (MQ below (nQ E r A' L ns' (z + mc)) args s mc ms (mfr E)) 0 0 0 (lv_args 0 as) [] A L ns) : nC E M R mc ms as A L ns z r A' ns' := by
  intro l
  refine Met.ofW (cc := M.2.1) (maxL := M.2.2.1) (ret := M.2.2.2) hy rfl ?_
  intro p e s m args below meth c s₁ B hml hv
  obtain ⟨rfl, hP, hD, hz, hA, hK, hX⟩ := hv
  have hts := atoms_spec (ws := mWs M) B.pre
  have hown : s.vm.findClass M.1.cls = some m.cls := findClass_of_methodNamed B.named
  have hin : meth.name = M.1.name := (name_of_methodNamed B.named B.method).1
  have hl := lv_entry (as.map (mup E)) (n := M.2.2.1) (by rw [lg_sl_up]; exact hsz)
  rw [lv_args_up] at hl
  rw [lg_entry_eq]
  exact h p l e s m _ below meth c ⟨⟨B.exec, B.bytes, hml, B.returns, B.notSynchronized, hown, hts, hK, hX⟩, hz, hA, hin⟩ s.heap [] _ hP hD rfl va_S.rf hl
theorem w_bound {p : Program} {l : Launch} {e : Env} {R : Room} {s : State} {m : MethodId} {args : Array Value} {below : List Frame} {meth : Method} {c : Code} {H : Heap} {locs : List Loc} {cells slots : Nat} {Q : State → Prop} {g : JFrame} (kk : H.size ≤ s.heap.size + cells → W p l e R s m args below meth c H locs cells slots Q g) : W p l e R s m args below meth c H locs cells slots Q g := fun T hT X => kk (by rw [← hT]; exact X.heapSize) T hT X
theorem va_S.tr {F : Nat → Prop} {H0 H H1 : Heap} {locs locs1 : List Loc} (h : va_S F H0 H locs) (h1 : va_S F H H1 locs1) : va_S F H0 H1 locs1 := ⟨Nat.le_trans h.1 h1.1, fun q a b => (h1.2.1 q (Nat.lt_of_lt_of_le a h.1) b).trans (h.2.1 q a b), h1.2.2⟩
/-- a final field's place -/
def mFF (own : String) (ci j : Nat) (ty : FieldType) : Prop := ∃ (Cn : String) (T : u_T) (N : Nat) (ty0 : Nat → FieldType), vwCl[ci]? = some (Cn, T, N) ∧ (∀ k, k < N → parseFieldDescriptor (T k).2.2.1 = some (ty0 k)) ∧ (∀ a, a < N → ∀ b, b < N → a ≠ b → (T a).2.1 ≠ (T b).2.1) ∧ (T j).2.2.2 = true ∧ (T j).1 = own ∧ parseFieldDescriptor (T j).2.2.1 = some ty
/-- a class can be made -/
def mNw (own : String) (idx ci : Nat) (fs : List Value) : Prop := ∃ (Cn : String) (T : u_T) (N : Nat) (ty0 : Nat → FieldType), vwCl[ci]? = some (Cn, T, N) ∧ (∀ k, k < N → parseFieldDescriptor (T k).2.2.1 = some (ty0 k)) ∧ (∀ w ∈ u_ws Cn T N, w ∈ mTb) ∧ Cond.classLink own idx Cn ∈ mTb ∧ Cond.instantiable Cn N ∈ mTb ∧ Cond.initialized Cn ∈ mTb ∧ fs.length = N ∧ ∀ j, j < N → defaultValue (ty0 j) = vp_V fs j
section NRULES
variable {E : mE} {M : mM} {p : Program} {l : Launch} {e : Env} {R : Room} {s : State} {m : MethodId} {args : Array Value} {below : List Frame} {meth : Method} {c : Code} {Q : State → Prop} {kc ks pc z : Nat} {loc : List (Nat × Value)} {st : List Value} {A : mA} {L : mJ} {ns : List (Nat × mK)}
theorem k_aload {n : Fin 4} {x : Nat} (C : nCx E M p s m args meth c z) (hd : decode M.2.1 pc = .ok (.aload_n n, 1)) (h : mlk loc n.val = some (.ref x)) (k : nG E M p l e R s m args below meth c Q kc ks (pc + 1) loc (.ref x :: st) A L ns) : nG E M p l e R s m args below meth c Q kc ks pc loc st A L ns := by
  intro H locs ls hP hD hz hS hl
  exact lv_aload_n C.1.1 C.1.2.1 hd rfl (lv_lk hl h) (k H locs ls hP hD hz hS hl)
theorem k_dup {x : Nat} (C : nCx E M p s m args meth c z) (hd : decode M.2.1 pc = .ok (.dup, 1)) (k : nG E M p l e R s m args below meth c Q kc ks (pc + 1) loc (.ref x :: .ref x :: st) A L ns) : nG E M p l e R s m args below meth c Q kc ks pc loc (.ref x :: st) A L ns := by
  intro H locs ls hP hD hz hS hl
  exact lv_dup C.1.1 C.1.2.1 hd rfl (k H locs ls hP hD hz hS hl)
theorem k_iconst {n : Int} {v : Int32} (C : nCx E M p s m args meth c z) (hd : decode M.2.1 pc = .ok (.iconst n, 1)) (hv : Int32.ofInt n = v) (k : nG E M p l e R s m args below meth c Q kc ks (pc + 1) loc (.int v :: st) A L ns) : nG E M p l e R s m args below meth c Q kc ks pc loc st A L ns := by
  intro H locs ls hP hD hz hS hl
  exact lv_iconst C.1.1 C.1.2.1 hd hv (k H locs ls hP hD hz hS hl)
theorem k_bipush {n : Int} {v : Int32} (C : nCx E M p s m args meth c z) (hd : decode M.2.1 pc = .ok (.bipush n, 2)) (hv : (Int8.ofInt n).toInt32 = v) (k : nG E M p l e R s m args below meth c Q kc ks (pc + 2) loc (.int v :: st) A L ns) : nG E M p l e R s m args below meth c Q kc ks pc loc st A L ns := by
  intro H locs ls hP hD hz hS hl
  exact lv_bipush C.1.1 C.1.2.1 hd hv (k H locs ls hP hD hz hS hl)
theorem k_sipush {n : Int} {v : Int32} (C : nCx E M p s m args meth c z) (hd : decode M.2.1 pc = .ok (.sipush n, 3)) (hv : (Int16.ofInt n).toInt32 = v) (k : nG E M p l e R s m args below meth c Q kc ks (pc + 3) loc (.int v :: st) A L ns) : nG E M p l e R s m args below meth c Q kc ks pc loc st A L ns := by
  intro H locs ls hP hD hz hS hl
  exact lv_sipush C.1.1 C.1.2.1 hd hv (k H locs ls hP hD hz hS hl)
theorem k_obj {idx x : Nat} (C : nCx E M p s m args meth c z) (hd : decode M.2.1 pc = .ok (.invokespecial idx, 3)) (h1 : Cond.methodLink M.1.cls idx Lib.objectInit ∈ mTb) (h2 : Cond.instanceMethod Lib.objectInit ∈ mTb) (h3 : Cond.code Lib.objectInit ⟨#[0xb1]⟩ 1 none ∈ mTb) (hf : 1 ≤ R.frames) (hr : 12 ≤ R.locals) (k : nG E M p l e R s m args below meth c Q kc ks (pc + 3) loc [] A L ns) : nG E M p l e R s m args below meth c Q kc ks pc loc [.ref x] A L ns := by
  intro H locs ls hP hD hz hS hl
  have tb := q_tb C.1
  exact W.objInit C.1.1 C.1.2.1 C.1.2.2.2.2.2.1 (tb _ h1) (tb _ h2) (tb _ h3) rfl (by rw [C.1.2.2.1]; exact hl.1) rfl hd hf hr (k H locs ls hP hD hz hS hl)
theorem k_arr {t n k : Nat} {ty : FieldType} {atype : ArrayType} {a0 : vp_A} (C : nCx E M p s m args meth c z) (hd : decode M.2.1 pc = .ok (.newarray atype, 2)) (hty : newarray.typeOf atype = ty) (har : Cond.arrayClass ty ∈ mTb) (ht : (mty E)[t]? = some (E.2.1 t, ty)) (hn : n < 2 ^ 16) (hby : n * componentBytes ty ≤ 536870912) (hmc : mce E A L k (.inl (t, n, [])) = .inl (E.2.1 t, a0)) (ha : vp_cell (E.2.1 t) a0 = arrV (E.2.1 t) n (fun _ => defaultValue ty)) (hk : mad E k = z + kc) (hkc : kc + 1 ≤ R.cells) (hks : ks + n ≤ R.slots)
    (kk : nG E M p l e R s m args below meth c Q (kc + 1) (ks + n) (pc + 2) loc (.ref k :: st) A L ((k, .inl (t, n, [])) :: ns)) : nG E M p l e R s m args below meth c Q kc ks pc loc (.int (nI n) :: st) A L ns := by
  intro H locs ls hP hD hz hS hl
  subst hty
  have hzk : H.size = mad E k := by rw [hk, hz, C.2.1]
  refine va_newaK C.1.1 C.1.2.1 (q_tb C.1 _ har) rfl hd rfl (nI_pos (by omega)) (nI_clamp (by omega)) hby hkc hks hzk (fun H1 cA e1 z1 o1 hAr hNm => ?_)
  have hc : cA = E.2.1 t := Option.some.inj (hNm.symm.trans (ra_prim atype (C.1.2.2.2.2.2.2.2.1.2 t _ ht).2))
  subst hc
  refine kk H1 locs ls ?_ ?_ (by rw [z1, ← hzk, hz]; omega) ?_ hl
  · refine nP_cons (hP.kept (fun i x hx => o1 x.1 (by rw [← hzk]; exact (hP i x hx).lt))) ?_
    rw [hmc]
    show H1[mad E k]? = some (vp_cell _ _)
    rw [ha]
    exact e1
  · exact nD_cons hD (fun i x hx => by rw [← hzk]; exact (hP i x hx).lt) (C.2.2.1 _ (by rw [hk]; omega))
  · exact ⟨Nat.le_trans hS.1 (by rw [z1, ← hzk]; omega), fun x h1 h2 => (o1 x (by rw [← hzk]; exact Nat.lt_of_lt_of_le h1 hS.1)).trans (hS.2.1 x h1 h2), hS.2.2⟩
theorem k_newI {n k : Nat} (C : nCx E M p s m args meth c z) (hd : decode M.2.1 pc = .ok (.newarray .int, 2)) (har : Cond.arrayClass .int ∈ mTb) (hn : n < 2 ^ 16) (hA : A k = fun _ => 0) (hk : mad E k = z + kc) (hkc : kc + 1 ≤ R.cells) (hks : ks + n ≤ R.slots)
    (kk : nG E M p l e R s m args below meth c Q (kc + 1) (ks + n) (pc + 2) loc (.ref k :: st) A L ((k, .inl (0, n, [])) :: ns)) : nG E M p l e R s m args below meth c Q kc ks pc loc (.int (nI n) :: st) A L ns :=
  k_arr (ty := .int) (t := 0) (a0 := (n, .inl (A k))) C hd rfl har rfl hn (by show n * 4 ≤ _; omega) rfl (by rw [vp_cell_i, hA]; rfl) hk hkc hks kk
theorem k_newC {n k : Nat} (C : nCx E M p s m args meth c z) (hd : decode M.2.1 pc = .ok (.newarray .char, 2)) (har : Cond.arrayClass .char ∈ mTb) (hn : n < 2 ^ 16) (hA : A k = fun _ => 0) (hk : mad E k = z + kc) (hkc : kc + 1 ≤ R.cells) (hks : ks + n ≤ R.slots)
    (kk : nG E M p l e R s m args below meth c Q (kc + 1) (ks + n) (pc + 2) loc (.ref k :: st) A L ((k, .inl (2, n, [])) :: ns)) : nG E M p l e R s m args below meth c Q kc ks pc loc (.int (nI n) :: st) A L ns :=
  k_arr (ty := .char) (t := 2) (a0 := (n, .inl (A k))) C hd rfl har rfl hn (by show n * 2 ≤ _; omega) rfl (by rw [vp_cell_i, hA]; rfl) hk hkc hks kk
theorem k_newZ {n k : Nat} (C : nCx E M p s m args meth c z) (hd : decode M.2.1 pc = .ok (.newarray .boolean, 2)) (har : Cond.arrayClass .boolean ∈ mTb) (hn : n < 2 ^ 16) (hA : A k = fun _ => 0) (hk : mad E k = z + kc) (hkc : kc + 1 ≤ R.cells) (hks : ks + n ≤ R.slots)
    (kk : nG E M p l e R s m args below meth c Q (kc + 1) (ks + n) (pc + 2) loc (.ref k :: st) A L ((k, .inl (3, n, [])) :: ns)) : nG E M p l e R s m args below meth c Q kc ks pc loc (.int (nI n) :: st) A L ns :=
  k_arr (ty := .boolean) (t := 3) (a0 := (n, .inl (A k))) C hd rfl har rfl hn (by show n * 1 ≤ _; omega) rfl (by rw [vp_cell_i, hA]; rfl) hk hkc hks kk
theorem k_newJ {n k : Nat} (C : nCx E M p s m args meth c z) (hd : decode M.2.1 pc = .ok (.newarray .long, 2)) (har : Cond.arrayClass .long ∈ mTb) (hn : n < 2 ^ 16) (hL : L k = fun _ => 0) (hk : mad E k = z + kc) (hkc : kc + 1 ≤ R.cells) (hks : ks + n ≤ R.slots)
    (kk : nG E M p l e R s m args below meth c Q (kc + 1) (ks + n) (pc + 2) loc (.ref k :: st) A L ((k, .inl (1, n, [])) :: ns)) : nG E M p l e R s m args below meth c Q kc ks pc loc (.int (nI n) :: st) A L ns :=
  k_arr (ty := .long) (t := 1) (a0 := (n, .inr (.inl (L k)))) C hd rfl har rfl hn (by show n * 8 ≤ _; omega) rfl (by rw [vp_cell_l, hL]; rfl) hk hkc hks kk
theorem k_new {idx k ci : Nat} {fs : List Value} (C : nCx E M p s m args meth c z) (hd : decode M.2.1 pc = .ok (.new idx, 3)) (hw : mNw M.1.cls idx ci fs) (hf : mfs E A k 0 fs = fs) (hk : mad E k = z + kc) (hkc : kc + 1 ≤ R.cells) (hks : ks + fs.length ≤ R.slots)
    (kk : nG E M p l e R s m args below meth c Q (kc + 1) (ks + fs.length) (pc + 3) loc (.ref k :: st) A L ((k, .inr (ci, fs)) :: ns)) : nG E M p l e R s m args below meth c Q kc ks pc loc st A L ns := by
  intro H locs ls hP hD hz hS hl
  obtain ⟨Cn, T, N, ty0, h1, h2, h3, h4, h5, h6, h7, h8⟩ := hw
  subst h7
  have hzk : H.size = mad E k := by rw [hk, hz, C.2.1]
  have tb := q_tb C.1
  have hKn := C.1.2.2.2.2.2.2.2.1.1 ci _ h1
  refine W.newcK C.1.1 C.1.2.1 C.1.2.2.2.2.2.1 (tb _ h4) (tb _ h5) (tb _ h6) rfl hd hkc hks hKn.2.1 hzk (fun H1 kC hkC e1 z1 o1 => ?_)
  refine kk H1 locs ls ?_ ?_ (by rw [z1, ← hzk, hz]; omega) ?_ hl
  · refine nP_cons (hP.kept (fun i x hx => o1 x.1 (by rw [← hzk]; exact (hP i x hx).lt))) ?_
    show va_at E.1 vwCl (mad E k, .inr (ci, mfs E A k 0 fs)) H1
    rw [hf]
    exact ⟨_, h1, (u_born ty0 tb h3 hKn hkC e1 h2).to h8⟩
  · exact nD_cons hD (fun i x hx => by rw [← hzk]; exact (hP i x hx).lt) (C.2.2.1 _ (by rw [hk]; omega))
  · exact ⟨Nat.le_trans hS.1 (by rw [z1, ← hzk]; omega), fun x h1 h2 => (o1 x (by rw [← hzk]; exact Nat.lt_of_lt_of_le h1 hS.1)).trans (hS.2.1 x h1 h2), hS.2.2⟩
theorem k_put {i k ci j r idx : Nat} {fs : List Value} {ty : FieldType} (C : nCx E M p s m args meth c z) (hd : decode M.2.1 pc = .ok (.putfield idx, 3)) (hi : M.1.name = "<init>") (hf : mFL M.1.cls idx ci j) (hp : mFF M.1.cls ci j ty) (hn : ∀ a, narrow ty (.ref a) = .ref a) (hfit : ∀ a, fits ty (.ref a) = true) (hk : ns[i]? = some (k, .inr (ci, fs))) (hj : j < fs.length) (hs : mfs E A k 0 (fs.set j (.ref r)) = (mfs E A k 0 fs).set j (.ref (mad E r)))
    (kk : nG E M p l e R s m args below meth c Q kc ks (pc + 3) loc st A L (ns.set i (k, .inr (ci, fs.set j (.ref r))))) : nG E M p l e R s m args below meth c Q kc ks pc loc (.ref r :: .ref k :: st) A L ns := by
  intro H locs ls hP hD hz hS hl
  obtain ⟨Cn, T, N, h1, h2, h3, h4⟩ := hf
  obtain ⟨Cn', T', N', ty0, g1, g2, g3, g4, g5, g6⟩ := hp
  cases h1.symm.trans g1
  have tb := q_tb C.1
  refine va_putF (H0 := H) (v := .ref (mad E r)) C.1.1 C.1.2.1 tb h3 ty0 g2 g3 C.1.2.2.2.2.2.1 C.1.2.2.2.2.2.2.2.1 hP hD ⟨Nat.le_refl _, fun _ _ _ => rfl, hS.2.2⟩ i (nws_get hk) h1 j h2 (tb _ h4) (fun x hx => hx) g4 (by rw [C.2.2.2, hi]) g5 g6 (hn _) (hfit _) (by rw [mfs_len]; exact hj) hd (fun H1 locs1 hP1 hD1 hS1 => ?_)
  have e1 : (mad E k, Sum.inr (ci, (mfs E A k 0 fs).set j (.ref (mad E r)))) = (mad E k, mce E A L k (.inr (ci, fs.set j (.ref r)))) := by rw [← hs]; rfl
  rw [e1, nws_set] at hP1 hD1
  refine w_bound (fun hb => ?_)
  exact kk H1 locs1 ls hP1 hD1 (Nat.le_antisymm hb (by rw [← hz]; exact hS1.1)) (hS.tr hS1) hl
theorem k_ret {r : Option Value} {A' : mA} {ns' : List (Nat × mK)} {z' : Nat} (C : nCx E M p s m args meth c z) (hd : decode M.2.1 pc = .ok (.return_, 1)) (hr : M.2.2.2 = none) (h1 : A = A') (h2 : ns = ns') (h3 : z' = z + kc) (h4 : r = none) : nG E M p l e R s m args below meth c (MQ below (nQ E r A' L ns' z') args s kc ks (mfr E)) kc ks pc loc [] A L ns := by
  intro H locs ls hP hD hz hS hl
  subst h1; subst h2; subst h3; subst h4
  exact W.vret C.1.1 C.1.2.1 (C.1.2.2.2.1.trans hr) (fun t ht hW => ⟨⟨rfl, by rw [ht]; exact hP, hD, by rw [ht, hz, C.2.1]⟩, hS.F ht⟩) hS.2.2 hd C.1.2.2.2.2.1
end NRULES
