/-! RULES OF THE SMALL MACHINE, one an instruction. -/
def mlk : List (Nat × Value) → Nat → Option Value
  | [], _ => none
  | q :: l, i => if q.1 = i then some q.2 else mlk l i
theorem mlk_mem : ∀ (l : List (Nat × Value)) (i : Nat) (v : Value), mlk l i = some v → (i, v) ∈ l
  | [], _, _, h => by simp [mlk] at h
  | q :: l, i, v, h => by
    simp only [mlk] at h
    split at h
    · next e => cases h; subst e; exact List.mem_cons_self
    · exact List.mem_cons_of_mem _ (mlk_mem l i v h)
theorem lv_lk {E : mE} {ls : Array Slot} {nL : Nat} {loc : List (Nat × Value)} (h : lv_has ls nL (loc.map (fun q => (q.1, mup E q.2)))) {i : Nat} {v : Value} (hl : mlk loc i = some v) : ls[i]? = some (.val (mup E v)) :=
  h.2.2 (i, mup E v) (List.mem_map.mpr ⟨(i, v), mlk_mem _ _ _ hl, rfl⟩)
def mst (loc : List (Nat × Value)) (i : Nat) (v : Value) : List (Nat × Value) := (i, v) :: loc.filter (fun q => !(q.1 == i) && !(q.1 + 1 == i && q.2.category == 2))
def msl (loc : List (Nat × Value)) (i : Nat) (v : Value) : List (Nat × Value) := (i, v) :: loc.filter (fun q => !(q.1 == i) && (!(q.1 == i + 1) && !(q.1 + 1 == i && q.2.category == 2)))
theorem mst_up (E : mE) (loc : List (Nat × Value)) (i : Nat) (v : Value) : (i, mup E v) :: (loc.map (fun q => (q.1, mup E q.2))).filter (fun q => !(q.1 == i) && !(q.1 + 1 == i && q.2.category == 2)) = (mst loc i v).map (fun q => (q.1, mup E q.2)) := by
  simp only [mst, List.map_cons, List.filter_map, Function.comp_def, mup_cat]
theorem msl_up (E : mE) (loc : List (Nat × Value)) (i : Nat) (v : Value) : (i, mup E v) :: (loc.map (fun q => (q.1, mup E q.2))).filter (fun q => !(q.1 == i) && (!(q.1 == i + 1) && !(q.1 + 1 == i && q.2.category == 2))) = (msl loc i v).map (fun q => (q.1, mup E q.2)) := by
  simp only [msl, List.map_cons, List.filter_map, Function.comp_def, mup_cat]
def psh : Option Value → List Value → List Value
  | none, st => st
  | some v, st => v :: st
theorem psh_up (E : mE) (r : Option Value) (st : List Value) : (r.map (mup E)).toList ++ st.map (mup E) = (psh r st).map (mup E) := by cases r <;> rfl
theorem cat_up (E : mE) (st : List Value) : ((st.map (mup E)).map fun v => v.category) = st.map (fun v => v.category) := by
  simp only [List.map_map, Function.comp_def, mup_cat]
section QRULES
variable {E : mE} {M : mM} {d pc : Nat} {loc : List (Nat × Value)} {st : List Value} {A : mA} {L : mJ} {Ph : mP}
theorem qG.pick {loc' : List (Nat × Value)} (ks : List Nat) (hl : lv_pick loc ks = loc') (k : qG E M d pc loc' st A L Ph) : qG E M d pc loc st A L Ph := by
  intro hw p l e s m args below meth c H locs ls C hP hS h
  refine k hw p l e s m args below meth c H locs ls C hP hS ⟨h.1, h.2.1, fun q hq => ?_⟩
  subst hl
  obtain ⟨x, hx, rfl⟩ := List.mem_map.mp hq
  obtain ⟨i, -, hi⟩ := List.mem_filterMap.mp hx
  exact h.2.2 _ (List.mem_map.mpr ⟨x, List.mem_of_getElem? hi, rfl⟩)
theorem qG.eq {st' : List Value} (h : st = st') (k : qG E M d pc loc st' A L Ph) : qG E M d pc loc st A L Ph := h ▸ k
theorem r_topi {x : Int32} (k : ∀ y : Int32, y = x → qG E M d pc loc (.int y :: st) A L Ph) : qG E M d pc loc (.int x :: st) A L Ph := k x rfl
theorem r_topl {x : Int64} (k : ∀ y : Int64, y = x → qG E M d pc loc (.long y :: st) A L Ph) : qG E M d pc loc (.long x :: st) A L Ph := k x rfl
theorem r_rw {x y : Int32} (h : x = y) (k : qG E M d pc loc (.int y :: st) A L Ph) : qG E M d pc loc (.int x :: st) A L Ph := h ▸ k
theorem r_rwl {x y : Int64} (h : x = y) (k : qG E M d pc loc (.long y :: st) A L Ph) : qG E M d pc loc (.long x :: st) A L Ph := h ▸ k
theorem r_iadd {x y : Int32} (hd : decode M.2.1 pc = .ok (.iadd, 1))  (k : qG E M d (pc + 1) loc (.int (x + y) :: st) A L Ph) : qG E M d pc loc (.int y :: .int x :: st) A L Ph := by
  intro hw p l e s m args below meth c H locs ls C hP hS hl
  exact lv_iadd C.1 C.2.1 hd (k hw p l e s m args below meth c H locs ls C hP hS hl)
theorem r_isub {x y : Int32} (hd : decode M.2.1 pc = .ok (.isub, 1))  (k : qG E M d (pc + 1) loc (.int (x - y) :: st) A L Ph) : qG E M d pc loc (.int y :: .int x :: st) A L Ph := by
  intro hw p l e s m args below meth c H locs ls C hP hS hl
  exact lv_isub C.1 C.2.1 hd (k hw p l e s m args below meth c H locs ls C hP hS hl)
theorem r_imul {x y : Int32} (hd : decode M.2.1 pc = .ok (.imul, 1))  (k : qG E M d (pc + 1) loc (.int (x * y) :: st) A L Ph) : qG E M d pc loc (.int y :: .int x :: st) A L Ph := by
  intro hw p l e s m args below meth c H locs ls C hP hS hl
  exact lv_imul C.1 C.2.1 hd (k hw p l e s m args below meth c H locs ls C hP hS hl)
theorem r_iand {x y : Int32} (hd : decode M.2.1 pc = .ok (.iand, 1))  (k : qG E M d (pc + 1) loc (.int (x &&& y) :: st) A L Ph) : qG E M d pc loc (.int y :: .int x :: st) A L Ph := by
  intro hw p l e s m args below meth c H locs ls C hP hS hl
  exact lv_iand C.1 C.2.1 hd (k hw p l e s m args below meth c H locs ls C hP hS hl)
theorem r_ior {x y : Int32} (hd : decode M.2.1 pc = .ok (.ior, 1))  (k : qG E M d (pc + 1) loc (.int (x ||| y) :: st) A L Ph) : qG E M d pc loc (.int y :: .int x :: st) A L Ph := by
  intro hw p l e s m args below meth c H locs ls C hP hS hl
  exact lv_ior C.1 C.2.1 hd (k hw p l e s m args below meth c H locs ls C hP hS hl)
theorem r_ixor {x y : Int32} (hd : decode M.2.1 pc = .ok (.ixor, 1))  (k : qG E M d (pc + 1) loc (.int (x ^^^ y) :: st) A L Ph) : qG E M d pc loc (.int y :: .int x :: st) A L Ph := by
  intro hw p l e s m args below meth c H locs ls C hP hS hl
  exact lv_ixor C.1 C.2.1 hd (k hw p l e s m args below meth c H locs ls C hP hS hl)
theorem r_idiv {x y : Int32} (hd : decode M.2.1 pc = .ok (.idiv, 1)) (hne : ¬ y = 0) (k : qG E M d (pc + 1) loc (.int (x / y) :: st) A L Ph) : qG E M d pc loc (.int y :: .int x :: st) A L Ph := by
  intro hw p l e s m args below meth c H locs ls C hP hS hl
  exact lv_idiv C.1 C.2.1 hd hne (k hw p l e s m args below meth c H locs ls C hP hS hl)
theorem r_irem {x y : Int32} (hd : decode M.2.1 pc = .ok (.irem, 1)) (hne : ¬ y = 0) (k : qG E M d (pc + 1) loc (.int (x - x / y * y) :: st) A L Ph) : qG E M d pc loc (.int y :: .int x :: st) A L Ph := by
  intro hw p l e s m args below meth c H locs ls C hP hS hl
  exact lv_irem C.1 C.2.1 hd hne (k hw p l e s m args below meth c H locs ls C hP hS hl)
theorem r_ladd {x y : Int64} (hd : decode M.2.1 pc = .ok (.ladd, 1))  (k : qG E M d (pc + 1) loc (.long (x + y) :: st) A L Ph) : qG E M d pc loc (.long y :: .long x :: st) A L Ph := by
  intro hw p l e s m args below meth c H locs ls C hP hS hl
  exact lv_ladd C.1 C.2.1 hd (k hw p l e s m args below meth c H locs ls C hP hS hl)
theorem r_lsub {x y : Int64} (hd : decode M.2.1 pc = .ok (.lsub, 1))  (k : qG E M d (pc + 1) loc (.long (x - y) :: st) A L Ph) : qG E M d pc loc (.long y :: .long x :: st) A L Ph := by
  intro hw p l e s m args below meth c H locs ls C hP hS hl
  exact lv_lsub C.1 C.2.1 hd (k hw p l e s m args below meth c H locs ls C hP hS hl)
theorem r_lmul {x y : Int64} (hd : decode M.2.1 pc = .ok (.lmul, 1))  (k : qG E M d (pc + 1) loc (.long (x * y) :: st) A L Ph) : qG E M d pc loc (.long y :: .long x :: st) A L Ph := by
  intro hw p l e s m args below meth c H locs ls C hP hS hl
  exact lv_lmul C.1 C.2.1 hd (k hw p l e s m args below meth c H locs ls C hP hS hl)
theorem r_land {x y : Int64} (hd : decode M.2.1 pc = .ok (.land, 1))  (k : qG E M d (pc + 1) loc (.long (x &&& y) :: st) A L Ph) : qG E M d pc loc (.long y :: .long x :: st) A L Ph := by
  intro hw p l e s m args below meth c H locs ls C hP hS hl
  exact lv_land C.1 C.2.1 hd (k hw p l e s m args below meth c H locs ls C hP hS hl)
theorem r_lor {x y : Int64} (hd : decode M.2.1 pc = .ok (.lor, 1))  (k : qG E M d (pc + 1) loc (.long (x ||| y) :: st) A L Ph) : qG E M d pc loc (.long y :: .long x :: st) A L Ph := by
  intro hw p l e s m args below meth c H locs ls C hP hS hl
  exact lv_lor C.1 C.2.1 hd (k hw p l e s m args below meth c H locs ls C hP hS hl)
theorem r_lxor {x y : Int64} (hd : decode M.2.1 pc = .ok (.lxor, 1))  (k : qG E M d (pc + 1) loc (.long (x ^^^ y) :: st) A L Ph) : qG E M d pc loc (.long y :: .long x :: st) A L Ph := by
  intro hw p l e s m args below meth c H locs ls C hP hS hl
  exact lv_lxor C.1 C.2.1 hd (k hw p l e s m args below meth c H locs ls C hP hS hl)
theorem r_ldiv {x y : Int64} (hd : decode M.2.1 pc = .ok (.ldiv, 1)) (hne : ¬ y = 0) (k : qG E M d (pc + 1) loc (.long (x / y) :: st) A L Ph) : qG E M d pc loc (.long y :: .long x :: st) A L Ph := by
  intro hw p l e s m args below meth c H locs ls C hP hS hl
  exact lv_ldiv C.1 C.2.1 hd hne (k hw p l e s m args below meth c H locs ls C hP hS hl)
theorem r_lrem {x y : Int64} (hd : decode M.2.1 pc = .ok (.lrem, 1)) (hne : ¬ y = 0) (k : qG E M d (pc + 1) loc (.long (x - x / y * y) :: st) A L Ph) : qG E M d pc loc (.long y :: .long x :: st) A L Ph := by
  intro hw p l e s m args below meth c H locs ls C hP hS hl
  exact lv_lrem C.1 C.2.1 hd hne (k hw p l e s m args below meth c H locs ls C hP hS hl)
theorem r_ineg {x : Int32} (hd : decode M.2.1 pc = .ok (.ineg, 1))  (k : qG E M d (pc + 1) loc (.int (-x) :: st) A L Ph) : qG E M d pc loc (.int x :: st) A L Ph := by
  intro hw p l e s m args below meth c H locs ls C hP hS hl
  exact lv_ineg C.1 C.2.1 hd (k hw p l e s m args below meth c H locs ls C hP hS hl)
theorem r_ishl {x y : Int32} (hd : decode M.2.1 pc = .ok (.ishl, 1))  (k : qG E M d (pc + 1) loc (.int (x <<< (y &&& 31)) :: st) A L Ph) : qG E M d pc loc (.int y :: .int x :: st) A L Ph := by
  intro hw p l e s m args below meth c H locs ls C hP hS hl
  exact lv_ishl C.1 C.2.1 hd (k hw p l e s m args below meth c H locs ls C hP hS hl)
theorem r_ishr {x y : Int32} (hd : decode M.2.1 pc = .ok (.ishr, 1))  (k : qG E M d (pc + 1) loc (.int (x >>> (y &&& 31)) :: st) A L Ph) : qG E M d pc loc (.int y :: .int x :: st) A L Ph := by
  intro hw p l e s m args below meth c H locs ls C hP hS hl
  exact lv_ishr C.1 C.2.1 hd (k hw p l e s m args below meth c H locs ls C hP hS hl)
theorem r_iushr {x y : Int32} (hd : decode M.2.1 pc = .ok (.iushr, 1))  (k : qG E M d (pc + 1) loc (.int ((x.toUInt32 >>> (y.toUInt32 &&& Int32.toUInt32 31)).toInt32) :: st) A L Ph) : qG E M d pc loc (.int y :: .int x :: st) A L Ph := by
  intro hw p l e s m args below meth c H locs ls C hP hS hl
  exact lv_iushr C.1 C.2.1 hd rfl (k hw p l e s m args below meth c H locs ls C hP hS hl)
theorem r_lshl {x : Int64} {y : Int32} (hd : decode M.2.1 pc = .ok (.lshl, 1))  (k : qG E M d (pc + 1) loc (.long (x <<< (y.toInt64 &&& 63)) :: st) A L Ph) : qG E M d pc loc (.int y :: .long x :: st) A L Ph := by
  intro hw p l e s m args below meth c H locs ls C hP hS hl
  exact lv_lshl C.1 C.2.1 hd rfl (k hw p l e s m args below meth c H locs ls C hP hS hl)
theorem r_lushr {x : Int64} {y : Int32} (hd : decode M.2.1 pc = .ok (.lushr, 1))  (k : qG E M d (pc + 1) loc (.long ((x.toUInt64 >>> (y.toInt64.toUInt64 &&& Int64.toUInt64 63)).toInt64) :: st) A L Ph) : qG E M d pc loc (.int y :: .long x :: st) A L Ph := by
  intro hw p l e s m args below meth c H locs ls C hP hS hl
  exact lv_lushr C.1 C.2.1 hd rfl (k hw p l e s m args below meth c H locs ls C hP hS hl)
theorem r_i2l {x : Int32} (hd : decode M.2.1 pc = .ok (.i2l, 1))  (k : qG E M d (pc + 1) loc (.long x.toInt64 :: st) A L Ph) : qG E M d pc loc (.int x :: st) A L Ph := by
  intro hw p l e s m args below meth c H locs ls C hP hS hl
  exact lv_i2l C.1 C.2.1 hd rfl (k hw p l e s m args below meth c H locs ls C hP hS hl)
theorem r_l2i {x : Int64} (hd : decode M.2.1 pc = .ok (.l2i, 1))  (k : qG E M d (pc + 1) loc (.int x.toInt32 :: st) A L Ph) : qG E M d pc loc (.long x :: st) A L Ph := by
  intro hw p l e s m args below meth c H locs ls C hP hS hl
  exact lv_l2i C.1 C.2.1 hd rfl (k hw p l e s m args below meth c H locs ls C hP hS hl)
theorem r_i2b {x : Int32} (hd : decode M.2.1 pc = .ok (.i2b, 1))  (k : qG E M d (pc + 1) loc (.int x.toInt8.toInt32 :: st) A L Ph) : qG E M d pc loc (.int x :: st) A L Ph := by
  intro hw p l e s m args below meth c H locs ls C hP hS hl
  exact lv_i2b C.1 C.2.1 hd rfl (k hw p l e s m args below meth c H locs ls C hP hS hl)
theorem r_i2s {x : Int32} (hd : decode M.2.1 pc = .ok (.i2s, 1))  (k : qG E M d (pc + 1) loc (.int x.toInt16.toInt32 :: st) A L Ph) : qG E M d pc loc (.int x :: st) A L Ph := by
  intro hw p l e s m args below meth c H locs ls C hP hS hl
  exact lv_i2s C.1 C.2.1 hd rfl (k hw p l e s m args below meth c H locs ls C hP hS hl)
theorem r_i2c {x : Int32} (hd : decode M.2.1 pc = .ok (.i2c, 1))  (k : qG E M d (pc + 1) loc (.int (x.toUInt32 % 65536).toInt32 :: st) A L Ph) : qG E M d pc loc (.int x :: st) A L Ph := by
  intro hw p l e s m args below meth c H locs ls C hP hS hl
  exact lv_i2c C.1 C.2.1 hd rfl (k hw p l e s m args below meth c H locs ls C hP hS hl)
theorem r_lcmp {x y : Int64} (hd : decode M.2.1 pc = .ok (.lcmp, 1))  (k : qG E M d (pc + 1) loc (.int (lg_cmp x y) :: st) A L Ph) : qG E M d pc loc (.long y :: .long x :: st) A L Ph := by
  intro hw p l e s m args below meth c H locs ls C hP hS hl
  exact W.lcmp C.1 C.2.1 hd (k hw p l e s m args below meth c H locs ls C hP hS hl)
theorem r_iconst {n : Int} {v : Int32} (hd : decode M.2.1 pc = .ok (.iconst n, 1)) (hv : Int32.ofInt n = v) (k : qG E M d (pc + 1) loc (.int v :: st) A L Ph) : qG E M d pc loc (st) A L Ph := by
  intro hw p l e s m args below meth c H locs ls C hP hS hl
  exact lv_iconst C.1 C.2.1 hd hv (k hw p l e s m args below meth c H locs ls C hP hS hl)
theorem r_bipush {n : Int} {v : Int32} (hd : decode M.2.1 pc = .ok (.bipush n, 2)) (hv : (Int8.ofInt n).toInt32 = v) (k : qG E M d (pc + 2) loc (.int v :: st) A L Ph) : qG E M d pc loc (st) A L Ph := by
  intro hw p l e s m args below meth c H locs ls C hP hS hl
  exact lv_bipush C.1 C.2.1 hd hv (k hw p l e s m args below meth c H locs ls C hP hS hl)
theorem r_sipush {n : Int} {v : Int32} (hd : decode M.2.1 pc = .ok (.sipush n, 3)) (hv : (Int16.ofInt n).toInt32 = v) (k : qG E M d (pc + 3) loc (.int v :: st) A L Ph) : qG E M d pc loc (st) A L Ph := by
  intro hw p l e s m args below meth c H locs ls C hP hS hl
  exact lv_sipush C.1 C.2.1 hd hv (k hw p l e s m args below meth c H locs ls C hP hS hl)
theorem r_lconst {n : Fin 2} {v : Int64} (hd : decode M.2.1 pc = .ok (.lconst n, 1)) (hv : Int64.ofNat (n : Nat) = v) (k : qG E M d (pc + 1) loc (.long v :: st) A L Ph) : qG E M d pc loc (st) A L Ph := by
  intro hw p l e s m args below meth c H locs ls C hP hS hl
  exact lv_lconst C.1 C.2.1 hd hv (k hw p l e s m args below meth c H locs ls C hP hS hl)
theorem r_ldc {n : Nat} {v : Int32} (hd : decode M.2.1 pc = .ok (.ldc n, 2)) (hc : Cond.constant M.1.cls n v ∈ mTb) (k : qG E M d (pc + 2) loc (.int v :: st) A L Ph) : qG E M d pc loc (st) A L Ph := by
  intro hw p l e s m args below meth c H locs ls C hP hS hl
  exact lv_ldc C.1 C.2.1 C.2.2.2.2.2.1 (C.2.2.2.2.2.2.1 _ (List.mem_cons_of_mem _ hc)) hd (k hw p l e s m args below meth c H locs ls C hP hS hl)
theorem r_ldcw {n : Nat} {v : Int32} (hd : decode M.2.1 pc = .ok (.ldc_w n, 3)) (hc : Cond.constant M.1.cls n v ∈ mTb) (k : qG E M d (pc + 3) loc (.int v :: st) A L Ph) : qG E M d pc loc (st) A L Ph := by
  intro hw p l e s m args below meth c H locs ls C hP hS hl
  exact lv_ldcw C.1 C.2.1 C.2.2.2.2.2.1 (C.2.2.2.2.2.2.1 _ (List.mem_cons_of_mem _ hc)) hd (k hw p l e s m args below meth c H locs ls C hP hS hl)
theorem r_ldc2 {n : Nat} {v : Int64} (hd : decode M.2.1 pc = .ok (.ldc2_w n, 3)) (hc : Cond.constantLong M.1.cls n v ∈ mTb) (k : qG E M d (pc + 3) loc (.long v :: st) A L Ph) : qG E M d pc loc (st) A L Ph := by
  intro hw p l e s m args below meth c H locs ls C hP hS hl
  exact lv_ldc2 C.1 C.2.1 C.2.2.2.2.2.1 (C.2.2.2.2.2.2.1 _ (List.mem_cons_of_mem _ hc)) hd (k hw p l e s m args below meth c H locs ls C hP hS hl)
theorem r_iload_n {n : Fin 4} {x : Int32} (hd : decode M.2.1 pc = .ok (.iload_n n, 1)) (h : mlk loc n.val = some (.int x)) (k : qG E M d (pc + 1) loc (.int x :: st) A L Ph) : qG E M d pc loc (st) A L Ph := by
  intro hw p l e s m args below meth c H locs ls C hP hS hl
  exact lv_iload_n C.1 C.2.1 hd rfl (lv_lk hl h) (k hw p l e s m args below meth c H locs ls C hP hS hl)
theorem r_iload {n : Nat} {x : Int32} (hd : decode M.2.1 pc = .ok (.iload n, 2)) (h : mlk loc n = some (.int x)) (k : qG E M d (pc + 2) loc (.int x :: st) A L Ph) : qG E M d pc loc (st) A L Ph := by
  intro hw p l e s m args below meth c H locs ls C hP hS hl
  exact lv_iload C.1 C.2.1 hd (lv_lk hl h) (k hw p l e s m args below meth c H locs ls C hP hS hl)
theorem r_istore_n {n : Fin 4} {x : Int32} {loc' : List (Nat × Value)} (hd : decode M.2.1 pc = .ok (.istore_n n, 1)) (hn : n.val < M.2.2.1) (h : mst loc n.val (.int x) = loc') (k : qG E M d (pc + 1) loc' st A L Ph) : qG E M d pc loc (.int x :: st) A L Ph := by
  intro hw p l e s m args below meth c H locs ls C hP hS hl
  subst h
  exact lv_istore_n C.1 C.2.1 hd rfl hl hn (mst_up E loc n.val (.int x)) (fun ls' hl' => k hw p l e s m args below meth c H locs ls' C hP hS hl')
theorem r_istore {n : Nat} {x : Int32} {loc' : List (Nat × Value)} (hd : decode M.2.1 pc = .ok (.istore n, 2)) (hn : n < M.2.2.1) (h : mst loc n (.int x) = loc') (k : qG E M d (pc + 2) loc' st A L Ph) : qG E M d pc loc (.int x :: st) A L Ph := by
  intro hw p l e s m args below meth c H locs ls C hP hS hl
  subst h
  exact lv_istore C.1 C.2.1 hd hl hn (mst_up E loc n (.int x)) (fun ls' hl' => k hw p l e s m args below meth c H locs ls' C hP hS hl')
theorem r_lload_n {n : Fin 4} {x : Int64} (hd : decode M.2.1 pc = .ok (.lload_n n, 1)) (h : mlk loc n.val = some (.long x)) (k : qG E M d (pc + 1) loc (.long x :: st) A L Ph) : qG E M d pc loc (st) A L Ph := by
  intro hw p l e s m args below meth c H locs ls C hP hS hl
  exact lv_lload_n C.1 C.2.1 hd rfl (lv_lk hl h) (k hw p l e s m args below meth c H locs ls C hP hS hl)
theorem r_lload {n : Nat} {x : Int64} (hd : decode M.2.1 pc = .ok (.lload n, 2)) (h : mlk loc n = some (.long x)) (k : qG E M d (pc + 2) loc (.long x :: st) A L Ph) : qG E M d pc loc (st) A L Ph := by
  intro hw p l e s m args below meth c H locs ls C hP hS hl
  exact lv_lload C.1 C.2.1 hd (lv_lk hl h) (k hw p l e s m args below meth c H locs ls C hP hS hl)
theorem r_lstore_n {n : Fin 4} {x : Int64} {loc' : List (Nat × Value)} (hd : decode M.2.1 pc = .ok (.lstore_n n, 1)) (hn : n.val + 1 < M.2.2.1) (h : msl loc n.val (.long x) = loc') (k : qG E M d (pc + 1) loc' st A L Ph) : qG E M d pc loc (.long x :: st) A L Ph := by
  intro hw p l e s m args below meth c H locs ls C hP hS hl
  subst h
  exact lv_lstore_n C.1 C.2.1 hd rfl hl hn (msl_up E loc n.val (.long x)) (fun ls' hl' => k hw p l e s m args below meth c H locs ls' C hP hS hl')
theorem r_lstore {n : Nat} {x : Int64} {loc' : List (Nat × Value)} (hd : decode M.2.1 pc = .ok (.lstore n, 2)) (hn : n + 1 < M.2.2.1) (h : msl loc n (.long x) = loc') (k : qG E M d (pc + 2) loc' st A L Ph) : qG E M d pc loc (.long x :: st) A L Ph := by
  intro hw p l e s m args below meth c H locs ls C hP hS hl
  subst h
  exact lv_lstore C.1 C.2.1 hd hl hn (msl_up E loc n (.long x)) (fun ls' hl' => k hw p l e s m args below meth c H locs ls' C hP hS hl')
theorem r_aload_n {n : Fin 4} {x : Nat} (hd : decode M.2.1 pc = .ok (.aload_n n, 1)) (h : mlk loc n.val = some (.ref x)) (k : qG E M d (pc + 1) loc (.ref x :: st) A L Ph) : qG E M d pc loc (st) A L Ph := by
  intro hw p l e s m args below meth c H locs ls C hP hS hl
  exact lv_aload_n C.1 C.2.1 hd rfl (lv_lk hl h) (k hw p l e s m args below meth c H locs ls C hP hS hl)
theorem r_aload {n : Nat} {x : Nat} (hd : decode M.2.1 pc = .ok (.aload n, 2)) (h : mlk loc n = some (.ref x)) (k : qG E M d (pc + 2) loc (.ref x :: st) A L Ph) : qG E M d pc loc (st) A L Ph := by
  intro hw p l e s m args below meth c H locs ls C hP hS hl
  exact lv_aload C.1 C.2.1 hd (lv_lk hl h) (k hw p l e s m args below meth c H locs ls C hP hS hl)
theorem r_astore_n {n : Fin 4} {x : Nat} {loc' : List (Nat × Value)} (hd : decode M.2.1 pc = .ok (.astore_n n, 1)) (hn : n.val < M.2.2.1) (h : mst loc n.val (.ref x) = loc') (k : qG E M d (pc + 1) loc' st A L Ph) : qG E M d pc loc (.ref x :: st) A L Ph := by
  intro hw p l e s m args below meth c H locs ls C hP hS hl
  subst h
  exact lv_astore_n C.1 C.2.1 hd rfl hl hn (mst_up E loc n.val (.ref x)) (fun ls' hl' => k hw p l e s m args below meth c H locs ls' C hP hS hl')
theorem r_astore {n : Nat} {x : Nat} {loc' : List (Nat × Value)} (hd : decode M.2.1 pc = .ok (.astore n, 2)) (hn : n < M.2.2.1) (h : mst loc n (.ref x) = loc') (k : qG E M d (pc + 2) loc' st A L Ph) : qG E M d pc loc (.ref x :: st) A L Ph := by
  intro hw p l e s m args below meth c H locs ls C hP hS hl
  subst h
  exact lv_astore C.1 C.2.1 hd hl hn (mst_up E loc n (.ref x)) (fun ls' hl' => k hw p l e s m args below meth c H locs ls' C hP hS hl')
theorem r_iinc {i : Nat} {n : Int} {x v : Int32} {loc' : List (Nat × Value)} (hd : decode M.2.1 pc = .ok (.iinc i n, 3)) (hx : mlk loc i = some (.int x)) (hv : x + Int32.ofInt n = v) (hn : i < M.2.2.1) (h : mst loc i (.int v) = loc') (k : qG E M d (pc + 3) loc' st A L Ph) : qG E M d pc loc st A L Ph := by
  intro hw p l e s m args below meth c H locs ls C hP hS hl
  subst h
  obtain ⟨q, hq⟩ := List.getElem?_of_mem (List.mem_map.mpr ⟨(i, .int x), mlk_mem _ _ _ hx, rfl⟩ : (i, mup E (.int x)) ∈ loc.map (fun q => (q.1, mup E q.2)))
  exact lv_iinc C.1 C.2.1 hd hl hq hv hn (mst_up E loc i (.int v)) (fun ls' hl' => k hw p l e s m args below meth c H locs ls' C hP hS hl')
theorem r_dup {v : Value} (hd : decode M.2.1 pc = .ok (.dup, 1)) (hc : v.category = 1) (k : qG E M d (pc + 1) loc (v :: v :: st) A L Ph) : qG E M d pc loc (v :: st) A L Ph := by
  intro hw p l e s m args below meth c H locs ls C hP hS hl
  exact lv_dup C.1 C.2.1 hd ((mup_cat E v).trans hc) (k hw p l e s m args below meth c H locs ls C hP hS hl)
theorem r_dup2 {v u : Value} (hd : decode M.2.1 pc = .ok (.dup2, 1)) (hc : v.category = 1) (hc2 : u.category = 1) (k : qG E M d (pc + 1) loc (v :: u :: v :: u :: st) A L Ph) : qG E M d pc loc (v :: u :: st) A L Ph := by
  intro hw p l e s m args below meth c H locs ls C hP hS hl
  exact lv_dup2_11 C.1 C.2.1 hd ((mup_cat E v).trans hc) ((mup_cat E u).trans hc2) (k hw p l e s m args below meth c H locs ls C hP hS hl)
theorem r_pop {v : Value} (hd : decode M.2.1 pc = .ok (.pop, 1)) (hc : v.category = 1) (k : qG E M d (pc + 1) loc (st) A L Ph) : qG E M d pc loc (v :: st) A L Ph := by
  intro hw p l e s m args below meth c H locs ls C hP hS hl
  exact lv_pop C.1 C.2.1 hd ((mup_cat E v).trans hc) (k hw p l e s m args below meth c H locs ls C hP hS hl)
theorem r_if_eq {x : Int32} {off : Int} {tgt : Nat} (hd : decode M.2.1 pc = .ok (.ifCond .eq off, 3)) (ht : (pc : Int) + off = (tgt : Int)) (kt : x = 0 → qG E M d tgt loc st A L Ph) (kf : ¬ x = 0 → qG E M d (pc + 3) loc st A L Ph) : qG E M d pc loc (.int x :: st) A L Ph := by
  intro hw p l e s m args below meth c H locs ls C hP hS hl
  exact lv_if_eq C.1 C.2.1 hd ht (fun h => kt h hw p l e s m args below meth c H locs ls C hP hS hl) (fun h => kf h hw p l e s m args below meth c H locs ls C hP hS hl)
theorem r_icmp_eq {x y : Int32} {off : Int} {tgt : Nat} (hd : decode M.2.1 pc = .ok (.if_icmp .eq off, 3)) (ht : (pc : Int) + off = (tgt : Int)) (kt : x = y → qG E M d tgt loc st A L Ph) (kf : ¬ x = y → qG E M d (pc + 3) loc st A L Ph) : qG E M d pc loc (.int y :: .int x :: st) A L Ph := by
  intro hw p l e s m args below meth c H locs ls C hP hS hl
  exact lv_icmp_eq C.1 C.2.1 hd ht (fun h => kt h hw p l e s m args below meth c H locs ls C hP hS hl) (fun h => kf h hw p l e s m args below meth c H locs ls C hP hS hl)
theorem r_if_ne {x : Int32} {off : Int} {tgt : Nat} (hd : decode M.2.1 pc = .ok (.ifCond .ne off, 3)) (ht : (pc : Int) + off = (tgt : Int)) (kt : ¬ x = 0 → qG E M d tgt loc st A L Ph) (kf : x = 0 → qG E M d (pc + 3) loc st A L Ph) : qG E M d pc loc (.int x :: st) A L Ph := by
  intro hw p l e s m args below meth c H locs ls C hP hS hl
  exact lv_if_ne C.1 C.2.1 hd ht (fun h => kt h hw p l e s m args below meth c H locs ls C hP hS hl) (fun h => kf h hw p l e s m args below meth c H locs ls C hP hS hl)
theorem r_icmp_ne {x y : Int32} {off : Int} {tgt : Nat} (hd : decode M.2.1 pc = .ok (.if_icmp .ne off, 3)) (ht : (pc : Int) + off = (tgt : Int)) (kt : ¬ x = y → qG E M d tgt loc st A L Ph) (kf : x = y → qG E M d (pc + 3) loc st A L Ph) : qG E M d pc loc (.int y :: .int x :: st) A L Ph := by
  intro hw p l e s m args below meth c H locs ls C hP hS hl
  exact lv_icmp_ne C.1 C.2.1 hd ht (fun h => kt h hw p l e s m args below meth c H locs ls C hP hS hl) (fun h => kf h hw p l e s m args below meth c H locs ls C hP hS hl)
theorem r_if_lt {x : Int32} {off : Int} {tgt : Nat} (hd : decode M.2.1 pc = .ok (.ifCond .lt off, 3)) (ht : (pc : Int) + off = (tgt : Int)) (kt : x < 0 → qG E M d tgt loc st A L Ph) (kf : ¬ x < 0 → qG E M d (pc + 3) loc st A L Ph) : qG E M d pc loc (.int x :: st) A L Ph := by
  intro hw p l e s m args below meth c H locs ls C hP hS hl
  exact lv_if_lt C.1 C.2.1 hd ht (fun h => kt h hw p l e s m args below meth c H locs ls C hP hS hl) (fun h => kf h hw p l e s m args below meth c H locs ls C hP hS hl)
theorem r_icmp_lt {x y : Int32} {off : Int} {tgt : Nat} (hd : decode M.2.1 pc = .ok (.if_icmp .lt off, 3)) (ht : (pc : Int) + off = (tgt : Int)) (kt : x < y → qG E M d tgt loc st A L Ph) (kf : ¬ x < y → qG E M d (pc + 3) loc st A L Ph) : qG E M d pc loc (.int y :: .int x :: st) A L Ph := by
  intro hw p l e s m args below meth c H locs ls C hP hS hl
  exact lv_icmp_lt C.1 C.2.1 hd ht (fun h => kt h hw p l e s m args below meth c H locs ls C hP hS hl) (fun h => kf h hw p l e s m args below meth c H locs ls C hP hS hl)
theorem r_if_ge {x : Int32} {off : Int} {tgt : Nat} (hd : decode M.2.1 pc = .ok (.ifCond .ge off, 3)) (ht : (pc : Int) + off = (tgt : Int)) (kt : 0 ≤ x → qG E M d tgt loc st A L Ph) (kf : ¬ 0 ≤ x → qG E M d (pc + 3) loc st A L Ph) : qG E M d pc loc (.int x :: st) A L Ph := by
  intro hw p l e s m args below meth c H locs ls C hP hS hl
  exact lv_if_ge C.1 C.2.1 hd ht (fun h => kt h hw p l e s m args below meth c H locs ls C hP hS hl) (fun h => kf h hw p l e s m args below meth c H locs ls C hP hS hl)
theorem r_icmp_ge {x y : Int32} {off : Int} {tgt : Nat} (hd : decode M.2.1 pc = .ok (.if_icmp .ge off, 3)) (ht : (pc : Int) + off = (tgt : Int)) (kt : y ≤ x → qG E M d tgt loc st A L Ph) (kf : ¬ y ≤ x → qG E M d (pc + 3) loc st A L Ph) : qG E M d pc loc (.int y :: .int x :: st) A L Ph := by
  intro hw p l e s m args below meth c H locs ls C hP hS hl
  exact lv_icmp_ge C.1 C.2.1 hd ht (fun h => kt h hw p l e s m args below meth c H locs ls C hP hS hl) (fun h => kf h hw p l e s m args below meth c H locs ls C hP hS hl)
theorem r_if_gt {x : Int32} {off : Int} {tgt : Nat} (hd : decode M.2.1 pc = .ok (.ifCond .gt off, 3)) (ht : (pc : Int) + off = (tgt : Int)) (kt : 0 < x → qG E M d tgt loc st A L Ph) (kf : ¬ 0 < x → qG E M d (pc + 3) loc st A L Ph) : qG E M d pc loc (.int x :: st) A L Ph := by
  intro hw p l e s m args below meth c H locs ls C hP hS hl
  exact lv_if_gt C.1 C.2.1 hd ht (fun h => kt h hw p l e s m args below meth c H locs ls C hP hS hl) (fun h => kf h hw p l e s m args below meth c H locs ls C hP hS hl)
theorem r_icmp_gt {x y : Int32} {off : Int} {tgt : Nat} (hd : decode M.2.1 pc = .ok (.if_icmp .gt off, 3)) (ht : (pc : Int) + off = (tgt : Int)) (kt : y < x → qG E M d tgt loc st A L Ph) (kf : ¬ y < x → qG E M d (pc + 3) loc st A L Ph) : qG E M d pc loc (.int y :: .int x :: st) A L Ph := by
  intro hw p l e s m args below meth c H locs ls C hP hS hl
  exact lv_icmp_gt C.1 C.2.1 hd ht (fun h => kt h hw p l e s m args below meth c H locs ls C hP hS hl) (fun h => kf h hw p l e s m args below meth c H locs ls C hP hS hl)
theorem r_if_le {x : Int32} {off : Int} {tgt : Nat} (hd : decode M.2.1 pc = .ok (.ifCond .le off, 3)) (ht : (pc : Int) + off = (tgt : Int)) (kt : x ≤ 0 → qG E M d tgt loc st A L Ph) (kf : ¬ x ≤ 0 → qG E M d (pc + 3) loc st A L Ph) : qG E M d pc loc (.int x :: st) A L Ph := by
  intro hw p l e s m args below meth c H locs ls C hP hS hl
  exact lv_if_le C.1 C.2.1 hd ht (fun h => kt h hw p l e s m args below meth c H locs ls C hP hS hl) (fun h => kf h hw p l e s m args below meth c H locs ls C hP hS hl)
theorem r_icmp_le {x y : Int32} {off : Int} {tgt : Nat} (hd : decode M.2.1 pc = .ok (.if_icmp .le off, 3)) (ht : (pc : Int) + off = (tgt : Int)) (kt : x ≤ y → qG E M d tgt loc st A L Ph) (kf : ¬ x ≤ y → qG E M d (pc + 3) loc st A L Ph) : qG E M d pc loc (.int y :: .int x :: st) A L Ph := by
  intro hw p l e s m args below meth c H locs ls C hP hS hl
  exact lv_icmp_le C.1 C.2.1 hd ht (fun h => kt h hw p l e s m args below meth c H locs ls C hP hS hl) (fun h => kf h hw p l e s m args below meth c H locs ls C hP hS hl)
theorem r_goto {off : Int} {tgt : Nat} (hd : decode M.2.1 pc = .ok (.goto off, 3)) (ht : (pc : Int) + off = (tgt : Int)) (k : qG E M d tgt loc st A L Ph) : qG E M d pc loc st A L Ph := by
  intro hw p l e s m args below meth c H locs ls C hP hS hl
  exact lv_goto C.1 C.2.1 hd ht (k hw p l e s m args below meth c H locs ls C hP hS hl)
theorem r_tableIn {dflt lo hi : Int} {offs : Array Int} {len : Nat} {x : Int32} {off : Int} {tgt : Nat} (hd : decode M.2.1 pc = .ok (.tableswitch dflt lo hi offs, len)) (h1 : ¬ x.toInt < lo) (h2 : ¬ hi < x.toInt) (ho : offs[(x.toInt - lo).toNat]? = some off) (ht : (pc : Int) + off = (tgt : Int)) (k : qG E M d tgt loc st A L Ph) : qG E M d pc loc (.int x :: st) A L Ph := by
  intro hw p l e s m args below meth c H locs ls C hP hS hl
  exact lv_tableIn C.1 C.2.1 hd h1 h2 ho ht (k hw p l e s m args below meth c H locs ls C hP hS hl)
theorem r_tableOut {dflt lo hi : Int} {offs : Array Int} {len : Nat} {x : Int32} {tgt : Nat} (hd : decode M.2.1 pc = .ok (.tableswitch dflt lo hi offs, len)) (h : x.toInt < lo ∨ hi < x.toInt) (ht : (pc : Int) + dflt = (tgt : Int)) (k : qG E M d tgt loc st A L Ph) : qG E M d pc loc (.int x :: st) A L Ph := by
  intro hw p l e s m args below meth c H locs ls C hP hS hl
  exact lv_tableOut C.1 C.2.1 hd h ht (k hw p l e s m args below meth c H locs ls C hP hS hl)
theorem r_lookup {dflt : Int} {ps : Array (Int × Int)} {len : Nat} {x : Int32} {off : Int} {tgt : Nat} (hd : decode M.2.1 pc = .ok (.lookupswitch dflt ps, len)) (hp : (ps.toList.zip (ps.toList.drop 1)).all (fun (a, next) => a.1 < next.1) = true) (ho : Op.lookupswitch.offset ps.toList dflt x.toInt = off) (ht : (pc : Int) + off = (tgt : Int)) (k : qG E M d tgt loc st A L Ph) : qG E M d pc loc (.int x :: st) A L Ph := by
  intro hw p l e s m args below meth c H locs ls C hP hS hl
  exact lv_lookup C.1 C.2.1 hd hp ho ht (k hw p l e s m args below meth c H locs ls C hP hS hl)
/-! fields -/
def mFL (own : String) (idx ci j : Nat) : Prop := ∃ (Cn : String) (T : u_T) (N : Nat), vwCl[ci]? = some (Cn, T, N) ∧ j < N ∧ (∀ w ∈ u_ws Cn T N, w ∈ mTb) ∧ Cond.fieldLink own idx (T j).1 (T j).2.1 (T j).2.2.1 ∈ mTb
def mFP (ci j : Nat) (ty : FieldType) : Prop := ∃ (Cn : String) (T : u_T) (N : Nat) (ty0 : Nat → FieldType), vwCl[ci]? = some (Cn, T, N) ∧ (∀ k, k < N → parseFieldDescriptor (T k).2.2.1 = some (ty0 k)) ∧ (∀ a, a < N → ∀ b, b < N → a ≠ b → (T a).2.1 ≠ (T b).2.1) ∧ (T j).2.2.2 = false ∧ parseFieldDescriptor (T j).2.2.1 = some ty
theorem q_tb {p : Program} {s : State} {m : MethodId} {args : Array Value} {meth : Method} {c : Code} (C : mCx E M p s m args meth c) : ∀ w ∈ mTb, w.before args s = true := fun w h => C.2.2.2.2.2.2.1 w (List.mem_cons_of_mem _ h)
theorem r_getI {idx k ci j : Nat} {fs : List Value} {z : Int32} (hd : decode M.2.1 pc = .ok (.getfield idx, 3)) (hf : mFL M.1.cls idx ci j) (hk : (mly E)[k]? = some (.inr (ci, fs))) (hj : fs[j]? = some (.int z)) (kk : qG E M d (pc + 3) loc (.int (A k j) :: st) A L Ph) : qG E M d pc loc (.ref k :: st) A L Ph := by
  intro hw p l e s m args below meth c H locs ls C hP hS hl
  obtain ⟨Cn, T, N, h1, h2, h3, h4⟩ := hf
  refine va_get C.1 C.2.1 (q_tb C) h3 C.2.2.2.2.2.1 C.2.2.2.2.2.2.2.1 hP k (mws_get hk) h1 j h2 (q_tb C _ h4) (fun x hx => hx) (v := .int (A k j)) ?_ hd (kk hw p l e s m args below meth c H locs ls C hP hS hl)
  rw [mfs_get fs 0 j _ hj, Nat.zero_add]; rfl
theorem r_getR {idx k ci j r : Nat} {fs : List Value} (hd : decode M.2.1 pc = .ok (.getfield idx, 3)) (hf : mFL M.1.cls idx ci j) (hk : (mly E)[k]? = some (.inr (ci, fs))) (hj : fs[j]? = some (.ref r)) (kk : qG E M d (pc + 3) loc (.ref r :: st) A L Ph) : qG E M d pc loc (.ref k :: st) A L Ph := by
  intro hw p l e s m args below meth c H locs ls C hP hS hl
  obtain ⟨Cn, T, N, h1, h2, h3, h4⟩ := hf
  refine va_get C.1 C.2.1 (q_tb C) h3 C.2.2.2.2.2.1 C.2.2.2.2.2.2.2.1 hP k (mws_get hk) h1 j h2 (q_tb C _ h4) (fun x hx => hx) (v := .ref (mad E r)) ?_ hd (kk hw p l e s m args below meth c H locs ls C hP hS hl)
  rw [mfs_get fs 0 j _ hj]; rfl
theorem r_putI {idx k ci j : Nat} {fs : List Value} {z x : Int32} {ty : FieldType} (hd : decode M.2.1 pc = .ok (.putfield idx, 3)) (hf : mFL M.1.cls idx ci j) (hp : mFP ci j ty) (hk : (mly E)[k]? = some (.inr (ci, fs))) (hj : fs[j]? = some (.int z)) (hn : narrow ty (.int x) = .int x) (hfit : fits ty (.int x) = true) (kk : qG E M d (pc + 3) loc st (s2 A k j x) L Ph) : qG E M d pc loc (.int x :: .ref k :: st) A L Ph := by
  intro hw p l e s m args below meth c H locs ls C hP hS hl
  obtain ⟨Cn, T, N, h1, h2, h3, h4⟩ := hf
  obtain ⟨Cn', T', N', ty0, g1, g2, g3, g4, g5⟩ := hp
  rw [h1] at g1
  cases g1
  refine va_put C.1 C.2.1 (q_tb C) h3 ty0 g2 g3 C.2.2.2.2.2.1 C.2.2.2.2.2.2.2.1 hP (mws_D hw) hS k (mws_get hk) h1 j h2 (q_tb C _ h4) (fun x hx => hx) g4 g5 hn hfit ?_ hd (fun H1 locs1 hP1 hD1 hS1 => ?_)
  · rw [mfs_len]; exact (List.getElem?_eq_some_iff.mp hj).1
  · have hP1 : va_P E.1 vwCl ((mws E A L).set k (mad E k, .inr (ci, (mfs E A k 0 fs).set j (.int x)))) H1 := hP1
    rw [mfs_set fs 0 j z hj, Nat.zero_add, mws_set hk (x := .inr (ci, mfs E (s2 A k j x) k 0 fs)) (A' := s2 A k j x) (L' := L) (fun q hq => s2_ne hq) (fun _ _ => rfl) rfl] at hP1
    exact kk hw p l e s m args below meth c H1 locs1 ls C hP1 hS1 hl
theorem r_iald {k n : Nat} {rs : List (Option Nat)} {i : Int32} (hd : decode M.2.1 pc = .ok (.iaload, 1)) (hk : (mly E)[k]? = some (.inl (0, n, rs))) (hin : vp_in i n) (kk : qG E M d (pc + 1) loc (.int (A k i.toNatClampNeg) :: st) A L Ph) : qG E M d pc loc (.int i :: .ref k :: st) A L Ph := by
  intro hw p l e s m args below meth c H locs ls C hP hS hl
  exact va_iald C.1 C.2.1 C.2.2.2.2.2.2.2.1 hP k 0 (mws_get hk) rfl hin hd (kk hw p l e s m args below meth c H locs ls C hP hS hl)
theorem r_ialdN {k n j : Nat} {rs : List (Option Nat)} (hd : decode M.2.1 pc = .ok (.iaload, 1)) (hk : (mly E)[k]? = some (.inl (0, n, rs))) (hj : j < n) (hn : n < 2 ^ 31) (kk : qG E M d (pc + 1) loc (.int (A k j) :: st) A L Ph) : qG E M d pc loc (.int (nI j) :: .ref k :: st) A L Ph := by
  refine r_iald hd hk (vp_in_nI hj hn) ?_
  rw [nI_clamp (Nat.lt_trans hj hn)]
  exact kk
theorem r_zald {k n : Nat} {rs : List (Option Nat)} {i : Int32} (hd : decode M.2.1 pc = .ok (.baload, 1)) (hk : (mly E)[k]? = some (.inl (3, n, rs))) (hin : vp_in i n) (kk : qG E M d (pc + 1) loc (.int (A k i.toNatClampNeg) :: st) A L Ph) : qG E M d pc loc (.int i :: .ref k :: st) A L Ph := by
  intro hw p l e s m args below meth c H locs ls C hP hS hl
  exact va_zald C.1 C.2.1 C.2.2.2.2.2.2.2.1 hP k 3 (mws_get hk) rfl hin hd (kk hw p l e s m args below meth c H locs ls C hP hS hl)
theorem r_zaldN {k n j : Nat} {rs : List (Option Nat)} (hd : decode M.2.1 pc = .ok (.baload, 1)) (hk : (mly E)[k]? = some (.inl (3, n, rs))) (hj : j < n) (hn : n < 2 ^ 31) (kk : qG E M d (pc + 1) loc (.int (A k j) :: st) A L Ph) : qG E M d pc loc (.int (nI j) :: .ref k :: st) A L Ph := by
  refine r_zald hd hk (vp_in_nI hj hn) ?_
  rw [nI_clamp (Nat.lt_trans hj hn)]
  exact kk
theorem r_cald {k n : Nat} {rs : List (Option Nat)} {i : Int32} (hd : decode M.2.1 pc = .ok (.caload, 1)) (hk : (mly E)[k]? = some (.inl (2, n, rs))) (hin : vp_in i n) (kk : qG E M d (pc + 1) loc (.int (A k i.toNatClampNeg) :: st) A L Ph) : qG E M d pc loc (.int i :: .ref k :: st) A L Ph := by
  intro hw p l e s m args below meth c H locs ls C hP hS hl
  exact va_cald C.1 C.2.1 C.2.2.2.2.2.2.2.1 hP k 2 (mws_get hk) rfl hin hd (kk hw p l e s m args below meth c H locs ls C hP hS hl)
theorem r_caldN {k n j : Nat} {rs : List (Option Nat)} (hd : decode M.2.1 pc = .ok (.caload, 1)) (hk : (mly E)[k]? = some (.inl (2, n, rs))) (hj : j < n) (hn : n < 2 ^ 31) (kk : qG E M d (pc + 1) loc (.int (A k j) :: st) A L Ph) : qG E M d pc loc (.int (nI j) :: .ref k :: st) A L Ph := by
  refine r_cald hd hk (vp_in_nI hj hn) ?_
  rw [nI_clamp (Nat.lt_trans hj hn)]
  exact kk
theorem r_lald {k n : Nat} {rs : List (Option Nat)} {i : Int32} (hd : decode M.2.1 pc = .ok (.laload, 1)) (hk : (mly E)[k]? = some (.inl (1, n, rs))) (hin : vp_in i n) (kk : qG E M d (pc + 1) loc (.long (L k i.toNatClampNeg) :: st) A L Ph) : qG E M d pc loc (.int i :: .ref k :: st) A L Ph := by
  intro hw p l e s m args below meth c H locs ls C hP hS hl
  exact va_lald C.1 C.2.1 C.2.2.2.2.2.2.2.1 hP k 1 (mws_get hk) rfl hin hd (kk hw p l e s m args below meth c H locs ls C hP hS hl)
theorem r_laldN {k n j : Nat} {rs : List (Option Nat)} (hd : decode M.2.1 pc = .ok (.laload, 1)) (hk : (mly E)[k]? = some (.inl (1, n, rs))) (hj : j < n) (hn : n < 2 ^ 31) (kk : qG E M d (pc + 1) loc (.long (L k j) :: st) A L Ph) : qG E M d pc loc (.int (nI j) :: .ref k :: st) A L Ph := by
  refine r_lald hd hk (vp_in_nI hj hn) ?_
  rw [nI_clamp (Nat.lt_trans hj hn)]
  exact kk
theorem r_iast {k n : Nat} {rs : List (Option Nat)} {i x : Int32} (hd : decode M.2.1 pc = .ok (.iastore, 1)) (hk : (mly E)[k]? = some (.inl (0, n, rs))) (hin : vp_in i n) (kk : qG E M d (pc + 1) loc st (s2 A k i.toNatClampNeg x) L Ph) : qG E M d pc loc (.int x :: .int i :: .ref k :: st) A L Ph := by
  intro hw p l e s m args below meth c H locs ls C hP hS hl
  refine va_iast C.1 C.2.1 C.2.2.2.2.2.2.2.1 hP (mws_D hw) hS k 0 (mws_get hk) rfl hin hd (fun H1 locs1 hP1 hD1 hS1 => ?_)
  rw [mws_set hk (A' := s2 A k i.toNatClampNeg x) (L' := L) (fun q hq => s2_ne hq) (fun _ _ => rfl) (by simp only [mce, s2_eq]; rfl)] at hP1
  exact kk hw p l e s m args below meth c H1 locs1 ls C hP1 hS1 hl
theorem r_iastN {k n j : Nat} {rs : List (Option Nat)} {x : Int32} (hd : decode M.2.1 pc = .ok (.iastore, 1)) (hk : (mly E)[k]? = some (.inl (0, n, rs))) (hj : j < n) (hn : n < 2 ^ 31) (kk : qG E M d (pc + 1) loc st (s2 A k j x) L Ph) : qG E M d pc loc (.int x :: .int (nI j) :: .ref k :: st) A L Ph := by
  refine r_iast hd hk (vp_in_nI hj hn) ?_
  rw [nI_clamp (Nat.lt_trans hj hn)]
  exact kk
theorem r_zastN {k n j : Nat} {rs : List (Option Nat)} {x : Int32} (hd : decode M.2.1 pc = .ok (.bastore, 1)) (hk : (mly E)[k]? = some (.inl (3, n, rs))) (hj : j < n) (hn : n < 2 ^ 31) (hx : vp_nar .boolean x = x) (kk : qG E M d (pc + 1) loc st (s2 A k j x) L Ph) : qG E M d pc loc (.int x :: .int (nI j) :: .ref k :: st) A L Ph := by
  intro hw p l e s m args below meth c H locs ls C hP hS hl
  refine va_zast C.1 C.2.1 C.2.2.2.2.2.2.2.1 hP (mws_D hw) hS k 3 (mws_get hk) rfl (vp_in_nI hj hn) hd (fun H1 locs1 hP1 hD1 hS1 => ?_)
  rw [hx, nI_clamp (Nat.lt_trans hj hn), mws_set hk (A' := s2 A k j x) (L' := L) (fun q hq => s2_ne hq) (fun _ _ => rfl) (by simp only [mce, s2_eq]; rfl)] at hP1
  exact kk hw p l e s m args below meth c H1 locs1 ls C hP1 hS1 hl
theorem r_lastN {k n j : Nat} {rs : List (Option Nat)} {x : Int64} (hd : decode M.2.1 pc = .ok (.lastore, 1)) (hk : (mly E)[k]? = some (.inl (1, n, rs))) (hj : j < n) (hn : n < 2 ^ 31) (kk : qG E M d (pc + 1) loc st A (sJ L k j x) Ph) : qG E M d pc loc (.long x :: .int (nI j) :: .ref k :: st) A L Ph := by
  intro hw p l e s m args below meth c H locs ls C hP hS hl
  refine va_last C.1 C.2.1 C.2.2.2.2.2.2.2.1 hP (mws_D hw) hS k 1 (mws_get hk) rfl (vp_in_nI hj hn) hd (fun H1 locs1 hP1 hD1 hS1 => ?_)
  rw [nI_clamp (Nat.lt_trans hj hn), mws_set hk (A' := A) (L' := sJ L k j x) (fun _ _ => rfl) (fun q hq => sJ_ne hq) (by simp only [mce, sJ_eq]; rfl)] at hP1
  exact kk hw p l e s m args below meth c H1 locs1 ls C hP1 hS1 hl
theorem r_aaldN {k n j r : Nat} {rs : List (Option Nat)} (hd : decode M.2.1 pc = .ok (.aaload, 1)) (hk : (mly E)[k]? = some (.inl (4, n, rs))) (hj : j < n) (hn : n < 2 ^ 31) (hr : rs.getD j none = some r) (kk : qG E M d (pc + 1) loc (.ref r :: st) A L Ph) : qG E M d pc loc (.int (nI j) :: .ref k :: st) A L Ph := by
  intro hw p l e s m args below meth c H locs ls C hP hS hl
  refine va_aldq C.1 C.2.1 C.2.2.2.2.2.2.2.1 hP k 4 (mws_get hk) rfl (vp_in_nI hj hn) hd ?_
  rw [nI_clamp (Nat.lt_trans hj hn), hr]
  exact kk hw p l e s m args below meth c H locs ls C hP hS hl
theorem r_alen {k n t : Nat} {rs : List (Option Nat)} {v : Int32} (hd : decode M.2.1 pc = .ok (.arraylength, 1)) (hk : (mly E)[k]? = some (.inl (t, n, rs))) (ht : t < 5) (hv : Int32.ofNat n = v) (kk : qG E M d (pc + 1) loc (.int v :: st) A L Ph) : qG E M d pc loc (.ref k :: st) A L Ph := by
  intro hw p l e s m args below meth c H locs ls C hP hS hl
  obtain ⟨ty, hty⟩ : ∃ ty, (mty E)[t]? = some (E.2.1 t, ty) := by
    rcases (show t = 0 ∨ t = 1 ∨ t = 2 ∨ t = 3 ∨ t = 4 by omega) with rfl | rfl | rfl | rfl | rfl <;> exact ⟨_, rfl⟩
  exact va_alen C.1 C.2.1 C.2.2.2.2.2.2.2.1 hP k t (mws_get hk) hty hv hd (kk hw p l e s m args below meth c H locs ls C hP hS hl)
/-! ends -/
theorem r_ireturn {v : Int32} {ty : FieldType} (hd : decode M.2.1 pc = .ok (.ireturn, 1)) (hr : M.2.2.2 = some ty) (hn : narrow ty (.int v) = .int v) (h : Ph (some (.int v)) A L) : qG E M d pc loc [.int v] A L Ph := by
  intro hw p l e s m args below meth c H locs ls C hP hS hl
  exact W.zret C.1 C.2.1 (C.2.2.2.1.trans hr) hn (fun t ht hW => ⟨⟨some (.int v), A, L, rfl, h, by rw [ht]; exact hP⟩, hS.F ht⟩) hS.2.2 hd C.2.2.2.2.1
theorem r_lreturn {v : Int64} (hd : decode M.2.1 pc = .ok (.lreturn, 1)) (hr : M.2.2.2 = some .long) (h : Ph (some (.long v)) A L) : qG E M d pc loc [.long v] A L Ph := by
  intro hw p l e s m args below meth c H locs ls C hP hS hl
  exact W.lret C.1 C.2.1 (C.2.2.2.1.trans hr) (fun t ht hW => ⟨⟨some (.long v), A, L, rfl, h, by rw [ht]; exact hP⟩, hS.F ht⟩) hS.2.2 hd C.2.2.2.2.1
theorem r_return (hd : decode M.2.1 pc = .ok (.return_, 1)) (hr : M.2.2.2 = none) (h : Ph none A L) : qG E M d pc loc [] A L Ph := by
  intro hw p l e s m args below meth c H locs ls C hP hS hl
  exact W.vret C.1 C.2.1 (C.2.2.2.1.trans hr) (fun t ht hW => ⟨⟨none, A, L, rfl, h, by rw [ht]; exact hP⟩, hS.F ht⟩) hS.2.2 hd C.2.2.2.2.1
/-! calls -/
theorem q_blind {E : mE} {A : mA} {L : mJ} {as : List Value} : FrameBlind (va_Pc as (mPre E A L)) := by
  intro a U g mk h
  obtain ⟨h1, h2, h3, h4⟩ := h
  exact ⟨h1, h2, va_K.moved (u := U) (U := U.calling g mk a) (Vm.Alike.refl U.vm) h3, h4.calls⟩
theorem q_pre {E : mE} {A : mA} {L : mJ} {as : List Value} {s : State} {H : Heap} {locs : List Loc} (hP : va_P E.1 vwCl (mws E A L) H) (hS : va_S (mfr E) s.heap H locs) (hK : va_K E.1 vwCl (mty E) s) (hX : mX E s s.heap) : ∀ U : State, U.heap = H → s.WarmedH U.vm → va_Pc as (mPre E A L) as.toArray U := by
  intro U hU hW
  refine ⟨rfl, by rw [hU]; exact hP, va_K.moved hW.alike hK, ?_⟩
  rw [hU]
  exact (hX.kept hS.2.1).warm hW
theorem q_run {E : mE} {p : Program} {l : Launch} {e : Env} {R : Room} {s : State} {m : MethodId} {args a : Array Value} {below : List Frame} {meth : Method} {c : Code} {H : Heap} {locs : List Loc} {Q : State → Prop} {pc : Nat} {ls : Array Slot} {rest st0 : List Value} {Ps : mP} (hr : va_Run p l e R s m args below meth c H locs 0 0 0 0 (F0 m pc ls st0) rest (mQ E Ps a) (mfr E)) (hS : va_S (mfr E) s.heap H locs)
    (kk : ∀ (r : Option Value) (A' : mA) (L' : mJ) (H1 : Heap) (locs1 : List Loc), Ps r A' L' → va_P E.1 vwCl (mws E A' L') H1 → va_S (mfr E) s.heap H1 locs1 → W p l e R s m args below meth c H1 locs1 0 0 Q (F0 m (pc + 3) ls ((r.map (mup E)).toList ++ rest))) : W p l e R s m args below meth c H locs 0 0 Q (F0 m pc ls st0) := by
  intro T hT X
  obtain ⟨v, st₀, t, T', Lc, h0, X', hL, e1, e2, ⟨⟨r, A', L', hv, hp, hP⟩, hz, hk⟩, stp⟩ := hr T hT X
  cases hv
  rw [h0] at hz hk
  obtain ⟨t2, a1, b1⟩ := kk r A' L' T'.heap (locs ++ Lc) hp (by rw [e1]; exact hP) ⟨Nat.le_trans hS.1 (by rw [e1]; exact hz), fun q h1 h2 => by rw [e1, hk q (Nat.lt_of_lt_of_le h1 hS.1) h2]; exact hS.2.1 q h1 h2, fun q hq => by
      rcases List.mem_append.mp hq with h | h
      · exact hS.2.2 q h
      · exact hL q h⟩ T' rfl X'
  exact ⟨t2, stp t2 a1, b1⟩
/-- a method can be called: its code is known, it is no handle's, its frame is small -/
def mOk (M' : mM) (n : Nat) : Prop := mCd M' ∧ Cond.initialized M'.1.cls ∈ mTb ∧ (M'.1.cls ≠ "java/lang/invoke/MethodHandle" ∧ M'.1.cls ≠ "java/lang/invoke/VarHandle" ∧ (parseMethodDescriptor M'.1.desc).map (fun d => d.parameters.length) = some n) ∧ M'.2.2.1 ≤ 45
def mLV (own : String) (idx : Nat) (M' : mM) (n : Nat) : Prop := Cond.methodLink own idx M'.1 ∈ mTb ∧ Cond.instanceMethod M'.1 ∈ mTb ∧ Cond.selects M'.1.cls M'.1 M'.1 ∈ mTb ∧ mOk M' n
def mLS (own : String) (idx : Nat) (M' : mM) (n : Nat) : Prop := Cond.methodLink own idx M'.1 ∈ mTb ∧ Cond.static M'.1 ∈ mTb ∧ mOk M' n
def mLN (own : String) (idx : Nat) (M' : mM) (n : Nat) : Prop := (own, idx, M'.1, "NoViewWithoutQuarrel") ∈ mNL ∧ Cond.static M'.1 ∈ mTb ∧ mOk M' n
theorem q_room {d maxL : Nat} (h : maxL ≤ 45) : (mRm d).frames + 1 ≤ (mRm (d + 1)).frames ∧ 8 + (maxL + 11) + (mRm d).locals ≤ (mRm (d + 1)).locals := ⟨Nat.le_refl _, by simp only [mRm]; omega⟩
theorem q_good1 {own : String} {idx n : Nat} {M' : mM} (h : mLV own idx M' n) : GoodIn (mWs M) (wsV own idx M'.1.cls M'.1 (mWs M')) := by
  obtain ⟨h1, h2, h3, h4, h5, -⟩ := h
  intro w hw
  have up : ∀ {w}, w ∈ mTb → w ∈ mWs M ∧ ((w.onTables && w.keeps) = true ∨ ∃ ty, w = .arrayClass ty) := fun h => ⟨List.mem_cons_of_mem _ h, mTb_good h⟩
  rcases List.mem_append.mp hw with hw | hw
  · simp only [List.mem_cons, List.not_mem_nil, or_false] at hw
    rcases hw with rfl | rfl | rfl | rfl
    · exact up h1
    · exact up h2
    · exact up h3
    · exact up h5
  · exact mWs_good h4 w hw
theorem q_callV {idx k ci n : Nat} {fs as stk : List Value} {T : u_T} {N : Nat} {M' : mM} (hd : decode M.2.1 pc = .ok (.invokevirtual idx, 3)) (hl : mLV M.1.cls idx M' n) (hk : (mly E)[k]? = some (.inr (ci, fs))) (hc : vwCl[ci]? = some (M'.1.cls, T, N)) (hn : as.length = n) (hst : stk = as.reverse ++ .ref k :: st) (hcat : (st.map fun v => v.category).sum ≤ 8)
    (h : qC E M' d (.ref k :: as) A L (fun r A' L' => qG E M (d + 1) (pc + 3) loc (psh r st) A' L' Ph)) : qG E M (d + 1) pc loc stk A L Ph := by
  intro hw p l e s m args below meth c H locs ls C hP hS hlv
  subst hst
  refine q_run (E := E) (rest := st.map (mup E)) (va_runV (b := mad E k) (As := as.map (mup E)) (C := M'.1.cls) ⟨C.1, C.2.1, C.2.2.1, C.2.2.2.2.2.1, C.2.2.2.2.2.2.1⟩ (h hw l) (cwV n C.2.2.2.2.2.2.1 (q_good1 hl) rfl rfl rfl ⟨rfl, hl.2.2.2.2.2.1⟩ (q_room hl.2.2.2.2.2.2)) ⟨q_blind, va_recv C.2.2.2.2.2.2.2.1 hP hc (mws_get hk), q_pre hP hS C.2.2.2.2.2.2.2.1 C.2.2.2.2.2.2.2.2⟩ rfl (by rw [List.length_map]; exact hn) hlv.1 (by simp [mup, List.map_reverse]) (lv_room (by rw [cat_up]; exact hcat)) hd ⟨Nat.le_refl _, Nat.le_refl _⟩) hS (fun r A' L' H1 locs1 hp hP1 hS1 => ?_)
  rw [psh_up]
  exact hp hw p l e s m args below meth c H1 locs1 ls C hP1 hS1 hlv
theorem q_callS {idx n : Nat} {as stk : List Value} {M' : mM} (hd : decode M.2.1 pc = .ok (.invokestatic idx, 3)) (hl : mLS M.1.cls idx M' n) (hn : as.length = n) (hst : stk = as.reverse ++ st) (hcat : (st.map fun v => v.category).sum ≤ 8)
    (h : qC E M' d as A L (fun r A' L' => qG E M (d + 1) (pc + 3) loc (psh r st) A' L' Ph)) : qG E M (d + 1) pc loc stk A L Ph := by
  intro hw p l e s m args below meth c H locs ls C hP hS hlv
  subst hst
  have tb := q_tb C
  refine q_run (E := E) (rest := st.map (mup E)) (va_runS (As := as.map (mup E)) ⟨C.1, C.2.1, C.2.2.1, C.2.2.2.2.2.1, C.2.2.2.2.2.2.1⟩ (h hw l) ⟨callB_of n C.2.2.2.2.2.2.1 (mWs_good hl.2.2.1) rfl rfl rfl (tb _ hl.2.2.2.1) (tb _ hl.1) hl.2.2.2.2.1 (q_room hl.2.2.2.2.2), tb _ hl.2.1⟩ ⟨q_blind, q_pre hP hS C.2.2.2.2.2.2.2.1 C.2.2.2.2.2.2.2.2⟩ rfl (by rw [List.length_map]; exact hn) hlv.1 (by simp [List.map_reverse]) (lv_room (by rw [cat_up]; exact hcat)) hd ⟨Nat.le_refl _, Nat.le_refl _⟩) hS (fun r A' L' H1 locs1 hp hP1 hS1 => ?_)
  rw [psh_up]
  exact hp hw p l e s m args below meth c H1 locs1 ls C hP1 hS1 hlv
theorem q_callN {idx n : Nat} {as stk : List Value} {M' : mM} (hd : decode M.2.1 pc = .ok (.invokestatic idx, 3)) (hl : mLN M.1.cls idx M' n) (hn : as.length = n) (hst : stk = as.reverse ++ st) (hcat : (st.map fun v => v.category).sum ≤ 8)
    (h : qC E M' d as A L (fun r A' L' => qG E M (d + 1) (pc + 3) loc (psh r st) A' L' Ph)) : qG E M (d + 1) pc loc stk A L Ph := by
  intro hw p l e s m args below meth c H locs ls C hP hS hlv
  subst hst
  have tb := q_tb C
  refine q_run (E := E) (rest := st.map (mup E)) (va_runSN (As := as.map (mup E)) ⟨C.1, C.2.1, C.2.2.1, C.2.2.2.2.2.1, C.2.2.2.2.2.2.1⟩ (h hw l) ⟨va_cnB n C.2.2.2.2.2.2.1 (mWs_good hl.2.2.1) rfl rfl rfl (C.2.2.2.2.2.2.2.2.1 _ hl.1) (tb _ hl.2.2.2.1) hl.2.2.2.2.1 (q_room hl.2.2.2.2.2), tb _ hl.2.1, trivial⟩ ⟨q_blind, q_pre hP hS C.2.2.2.2.2.2.2.1 C.2.2.2.2.2.2.2.2⟩ rfl (by rw [List.length_map]; exact hn) hlv.1 (by simp [List.map_reverse]) (lv_room (by rw [cat_up]; exact hcat)) hd ⟨Nat.le_refl _, Nat.le_refl _⟩) hS (fun r A' L' H1 locs1 hp hP1 hS1 => ?_)
  rw [psh_up]
  exact hp hw p l e s m args below meth c H1 locs1 ls C hP1 hS1 hlv
theorem r_callV0 {idx k ci : Nat} {fs : List Value} {T : u_T} {N : Nat} {M' : mM} (hd : decode M.2.1 pc = .ok (.invokevirtual idx, 3)) (hl : mLV M.1.cls idx M' 0) (hk : (mly E)[k]? = some (.inr (ci, fs))) (hc : vwCl[ci]? = some (M'.1.cls, T, N)) (hcat : (st.map fun v => v.category).sum ≤ 8) (h : qC E M' d [.ref k] A L (fun r A' L' => qG E M (d + 1) (pc + 3) loc (psh r st) A' L' Ph)) : qG E M (d + 1) pc loc (.ref k :: st) A L Ph := q_callV (as := []) hd hl hk hc rfl rfl hcat h
theorem r_callV1 {idx k ci : Nat} {fs : List Value} {T : u_T} {N : Nat} {v1 : Value} {M' : mM} (hd : decode M.2.1 pc = .ok (.invokevirtual idx, 3)) (hl : mLV M.1.cls idx M' 1) (hk : (mly E)[k]? = some (.inr (ci, fs))) (hc : vwCl[ci]? = some (M'.1.cls, T, N)) (hcat : (st.map fun v => v.category).sum ≤ 8) (h : qC E M' d [.ref k, v1] A L (fun r A' L' => qG E M (d + 1) (pc + 3) loc (psh r st) A' L' Ph)) : qG E M (d + 1) pc loc (v1 :: .ref k :: st) A L Ph := q_callV (as := [v1]) hd hl hk hc rfl rfl hcat h
theorem r_callV2 {idx k ci : Nat} {fs : List Value} {T : u_T} {N : Nat} {v1 v2 : Value} {M' : mM} (hd : decode M.2.1 pc = .ok (.invokevirtual idx, 3)) (hl : mLV M.1.cls idx M' 2) (hk : (mly E)[k]? = some (.inr (ci, fs))) (hc : vwCl[ci]? = some (M'.1.cls, T, N)) (hcat : (st.map fun v => v.category).sum ≤ 8) (h : qC E M' d [.ref k, v1, v2] A L (fun r A' L' => qG E M (d + 1) (pc + 3) loc (psh r st) A' L' Ph)) : qG E M (d + 1) pc loc (v2 :: v1 :: .ref k :: st) A L Ph := q_callV (as := [v1, v2]) hd hl hk hc rfl rfl hcat h
theorem r_callV3 {idx k ci : Nat} {fs : List Value} {T : u_T} {N : Nat} {v1 v2 v3 : Value} {M' : mM} (hd : decode M.2.1 pc = .ok (.invokevirtual idx, 3)) (hl : mLV M.1.cls idx M' 3) (hk : (mly E)[k]? = some (.inr (ci, fs))) (hc : vwCl[ci]? = some (M'.1.cls, T, N)) (hcat : (st.map fun v => v.category).sum ≤ 8) (h : qC E M' d [.ref k, v1, v2, v3] A L (fun r A' L' => qG E M (d + 1) (pc + 3) loc (psh r st) A' L' Ph)) : qG E M (d + 1) pc loc (v3 :: v2 :: v1 :: .ref k :: st) A L Ph := q_callV (as := [v1, v2, v3]) hd hl hk hc rfl rfl hcat h
theorem r_callV4 {idx k ci : Nat} {fs : List Value} {T : u_T} {N : Nat} {v1 v2 v3 v4 : Value} {M' : mM} (hd : decode M.2.1 pc = .ok (.invokevirtual idx, 3)) (hl : mLV M.1.cls idx M' 4) (hk : (mly E)[k]? = some (.inr (ci, fs))) (hc : vwCl[ci]? = some (M'.1.cls, T, N)) (hcat : (st.map fun v => v.category).sum ≤ 8) (h : qC E M' d [.ref k, v1, v2, v3, v4] A L (fun r A' L' => qG E M (d + 1) (pc + 3) loc (psh r st) A' L' Ph)) : qG E M (d + 1) pc loc (v4 :: v3 :: v2 :: v1 :: .ref k :: st) A L Ph := q_callV (as := [v1, v2, v3, v4]) hd hl hk hc rfl rfl hcat h
theorem r_callV5 {idx k ci : Nat} {fs : List Value} {T : u_T} {N : Nat} {v1 v2 v3 v4 v5 : Value} {M' : mM} (hd : decode M.2.1 pc = .ok (.invokevirtual idx, 3)) (hl : mLV M.1.cls idx M' 5) (hk : (mly E)[k]? = some (.inr (ci, fs))) (hc : vwCl[ci]? = some (M'.1.cls, T, N)) (hcat : (st.map fun v => v.category).sum ≤ 8) (h : qC E M' d [.ref k, v1, v2, v3, v4, v5] A L (fun r A' L' => qG E M (d + 1) (pc + 3) loc (psh r st) A' L' Ph)) : qG E M (d + 1) pc loc (v5 :: v4 :: v3 :: v2 :: v1 :: .ref k :: st) A L Ph := q_callV (as := [v1, v2, v3, v4, v5]) hd hl hk hc rfl rfl hcat h
theorem r_callS0 {idx : Nat} {M' : mM} (hd : decode M.2.1 pc = .ok (.invokestatic idx, 3)) (hl : mLS M.1.cls idx M' 0) (hcat : (st.map fun v => v.category).sum ≤ 8) (h : qC E M' d [] A L (fun r A' L' => qG E M (d + 1) (pc + 3) loc (psh r st) A' L' Ph)) : qG E M (d + 1) pc loc (st) A L Ph := q_callS (as := []) hd hl rfl rfl hcat h
theorem r_callS1 {idx : Nat} {v1 : Value} {M' : mM} (hd : decode M.2.1 pc = .ok (.invokestatic idx, 3)) (hl : mLS M.1.cls idx M' 1) (hcat : (st.map fun v => v.category).sum ≤ 8) (h : qC E M' d [v1] A L (fun r A' L' => qG E M (d + 1) (pc + 3) loc (psh r st) A' L' Ph)) : qG E M (d + 1) pc loc (v1 :: st) A L Ph := q_callS (as := [v1]) hd hl rfl rfl hcat h
theorem r_callS2 {idx : Nat} {v1 v2 : Value} {M' : mM} (hd : decode M.2.1 pc = .ok (.invokestatic idx, 3)) (hl : mLS M.1.cls idx M' 2) (hcat : (st.map fun v => v.category).sum ≤ 8) (h : qC E M' d [v1, v2] A L (fun r A' L' => qG E M (d + 1) (pc + 3) loc (psh r st) A' L' Ph)) : qG E M (d + 1) pc loc (v2 :: v1 :: st) A L Ph := q_callS (as := [v1, v2]) hd hl rfl rfl hcat h
theorem r_callS3 {idx : Nat} {v1 v2 v3 : Value} {M' : mM} (hd : decode M.2.1 pc = .ok (.invokestatic idx, 3)) (hl : mLS M.1.cls idx M' 3) (hcat : (st.map fun v => v.category).sum ≤ 8) (h : qC E M' d [v1, v2, v3] A L (fun r A' L' => qG E M (d + 1) (pc + 3) loc (psh r st) A' L' Ph)) : qG E M (d + 1) pc loc (v3 :: v2 :: v1 :: st) A L Ph := q_callS (as := [v1, v2, v3]) hd hl rfl rfl hcat h
theorem r_callS4 {idx : Nat} {v1 v2 v3 v4 : Value} {M' : mM} (hd : decode M.2.1 pc = .ok (.invokestatic idx, 3)) (hl : mLS M.1.cls idx M' 4) (hcat : (st.map fun v => v.category).sum ≤ 8) (h : qC E M' d [v1, v2, v3, v4] A L (fun r A' L' => qG E M (d + 1) (pc + 3) loc (psh r st) A' L' Ph)) : qG E M (d + 1) pc loc (v4 :: v3 :: v2 :: v1 :: st) A L Ph := q_callS (as := [v1, v2, v3, v4]) hd hl rfl rfl hcat h
theorem r_callS5 {idx : Nat} {v1 v2 v3 v4 v5 : Value} {M' : mM} (hd : decode M.2.1 pc = .ok (.invokestatic idx, 3)) (hl : mLS M.1.cls idx M' 5) (hcat : (st.map fun v => v.category).sum ≤ 8) (h : qC E M' d [v1, v2, v3, v4, v5] A L (fun r A' L' => qG E M (d + 1) (pc + 3) loc (psh r st) A' L' Ph)) : qG E M (d + 1) pc loc (v5 :: v4 :: v3 :: v2 :: v1 :: st) A L Ph := q_callS (as := [v1, v2, v3, v4, v5]) hd hl rfl rfl hcat h
theorem r_callN2 {idx : Nat} {v1 v2 : Value} {M' : mM} (hd : decode M.2.1 pc = .ok (.invokestatic idx, 3)) (hl : mLN M.1.cls idx M' 2) (hcat : (st.map fun v => v.category).sum ≤ 8) (h : qC E M' d [v1, v2] A L (fun r A' L' => qG E M (d + 1) (pc + 3) loc (psh r st) A' L' Ph)) : qG E M (d + 1) pc loc (v2 :: v1 :: st) A L Ph := q_callN (as := [v1, v2]) hd hl rfl rfl hcat h
theorem r_callN3 {idx : Nat} {v1 v2 v3 : Value} {M' : mM} (hd : decode M.2.1 pc = .ok (.invokestatic idx, 3)) (hl : mLN M.1.cls idx M' 3) (hcat : (st.map fun v => v.category).sum ≤ 8) (h : qC E M' d [v1, v2, v3] A L (fun r A' L' => qG E M (d + 1) (pc + 3) loc (psh r st) A' L' Ph)) : qG E M (d + 1) pc loc (v3 :: v2 :: v1 :: st) A L Ph := q_callN (as := [v1, v2, v3]) hd hl rfl rfl hcat h
theorem r_callN4 {idx : Nat} {v1 v2 v3 v4 : Value} {M' : mM} (hd : decode M.2.1 pc = .ok (.invokestatic idx, 3)) (hl : mLN M.1.cls idx M' 4) (hcat : (st.map fun v => v.category).sum ≤ 8) (h : qC E M' d [v1, v2, v3, v4] A L (fun r A' L' => qG E M (d + 1) (pc + 3) loc (psh r st) A' L' Ph)) : qG E M (d + 1) pc loc (v4 :: v3 :: v2 :: v1 :: st) A L Ph := q_callN (as := [v1, v2, v3, v4]) hd hl rfl rfl hcat h
theorem r_callN5 {idx : Nat} {v1 v2 v3 v4 v5 : Value} {M' : mM} (hd : decode M.2.1 pc = .ok (.invokestatic idx, 3)) (hl : mLN M.1.cls idx M' 5) (hcat : (st.map fun v => v.category).sum ≤ 8) (h : qC E M' d [v1, v2, v3, v4, v5] A L (fun r A' L' => qG E M (d + 1) (pc + 3) loc (psh r st) A' L' Ph)) : qG E M (d + 1) pc loc (v5 :: v4 :: v3 :: v2 :: v1 :: st) A L Ph := q_callN (as := [v1, v2, v3, v4, v5]) hd hl rfl rfl hcat h

end QRULES
