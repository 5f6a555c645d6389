/-! THE CLASS'S OWN CONSTRUCTOR, behind its objects: the first text is fed, read and kept -/
def gG (E : mE) (M : mM) (p : Program) (l : Launch) (e : Env) (R : Room) (s : State) (m : MethodId) (args : Array Value) (below : List Frame) (meth : Method) (c : Code) (Q : State → Prop) (kc ks pc : Nat) (loc : List (Nat × Value)) (st : List Value) (A : mA) (L : mJ) : Prop :=
  ∀ (H : Heap) (locs : List Loc) (ls : Array Slot), va_P E.1 vwCl (mws E A L) H → va_S (mfr E) s.heap H locs → lv_has ls M.2.2.1 (loc.map (fun q => (q.1, mup E q.2))) →
    W p l e R s m args below meth c H locs kc ks Q (F0 m pc ls (st.map (mup E)))
section GRULES
variable {E : mE} {M : mM} {p : Program} {l : Launch} {e : Env} {R : Room} {s : State} {m : MethodId} {args : Array Value} {below : List Frame} {meth : Method} {c : Code} {Q : State → Prop} {kc ks pc d : Nat} {loc : List (Nat × Value)} {st : List Value} {A : mA} {L : mJ}
theorem g_aload {n : Fin 4} {x : Nat} (C : mCx E M p s m args meth c) (hd : decode M.2.1 pc = .ok (.aload_n n, 1)) (h : mlk loc n.val = some (.ref x)) (k : gG E M p l e R s m args below meth c Q kc ks (pc + 1) loc (.ref x :: st) A L) : gG E M p l e R s m args below meth c Q kc ks pc loc st A L := by
  intro H locs ls hP hS hl
  exact lv_aload_n C.1 C.2.1 hd rfl (lv_lk hl h) (k H locs ls hP hS hl)
theorem g_iload {n : Fin 4} {x : Int32} (C : mCx E M p s m args meth c) (hd : decode M.2.1 pc = .ok (.iload_n n, 1)) (h : mlk loc n.val = some (.int x)) (k : gG E M p l e R s m args below meth c Q kc ks (pc + 1) loc (.int x :: st) A L) : gG E M p l e R s m args below meth c Q kc ks pc loc st A L := by
  intro H locs ls hP hS hl
  exact lv_iload_n C.1 C.2.1 hd rfl (lv_lk hl h) (k H locs ls hP hS hl)
theorem g_iconst {n : Int} {v : Int32} (C : mCx E M p s m args meth c) (hd : decode M.2.1 pc = .ok (.iconst n, 1)) (hv : Int32.ofInt n = v) (k : gG E M p l e R s m args below meth c Q kc ks (pc + 1) loc (.int v :: st) A L) : gG E M p l e R s m args below meth c Q kc ks pc loc st A L := by
  intro H locs ls hP hS hl
  exact lv_iconst C.1 C.2.1 hd hv (k H locs ls hP hS hl)
theorem g_istore {n : Fin 4} {x : Int32} {loc' : List (Nat × Value)} (C : mCx E M p s m args meth c) (hd : decode M.2.1 pc = .ok (.istore_n n, 1)) (hn : n.val < M.2.2.1) (h : mst loc n.val (.int x) = loc') (k : gG E M p l e R s m args below meth c Q kc ks (pc + 1) loc' st A L) : gG E M p l e R s m args below meth c Q kc ks pc loc (.int x :: st) A L := by
  intro H locs ls hP hS hl
  subst h
  exact lv_istore_n C.1 C.2.1 hd rfl hl hn (mst_up E loc n.val (.int x)) (fun ls' hl' => k H locs ls' hP hS hl')
theorem g_iinc {i : Nat} {n : Int} {x v : Int32} {loc' : List (Nat × Value)} (C : mCx E M p s m args meth c) (hd : decode M.2.1 pc = .ok (.iinc i n, 3)) (hx : mlk loc i = some (.int x)) (hv : x + Int32.ofInt n = v) (hn : i < M.2.2.1) (h : mst loc i (.int v) = loc') (k : gG E M p l e R s m args below meth c Q kc ks (pc + 3) loc' st A L) : gG E M p l e R s m args below meth c Q kc ks pc loc st A L := by
  intro H locs ls hP hS hl
  subst h
  obtain ⟨q, hq⟩ := List.getElem?_of_mem (List.mem_map.mpr ⟨(i, .int x), mlk_mem _ _ _ hx, rfl⟩ : (i, mup E (.int x)) ∈ loc.map (fun q => (q.1, mup E q.2)))
  exact lv_iinc C.1 C.2.1 hd hl hq hv hn (mst_up E loc i (.int v)) (fun ls' hl' => k H locs ls' hP hS hl')
theorem g_pop {v : Int32} (C : mCx E M p s m args meth c) (hd : decode M.2.1 pc = .ok (.pop, 1)) (k : gG E M p l e R s m args below meth c Q kc ks (pc + 1) loc st A L) : gG E M p l e R s m args below meth c Q kc ks pc loc (.int v :: st) A L := by
  intro H locs ls hP hS hl
  exact lv_pop C.1 C.2.1 hd rfl (k H locs ls hP hS hl)
theorem g_ge {x y : Int32} {off : Int} {tgt : Nat} (C : mCx E M p s m args meth c) (hd : decode M.2.1 pc = .ok (.if_icmp .ge off, 3)) (ht : (pc : Int) + off = (tgt : Int)) (kt : y ≤ x → gG E M p l e R s m args below meth c Q kc ks tgt loc st A L) (kf : ¬ y ≤ x → gG E M p l e R s m args below meth c Q kc ks (pc + 3) loc st A L) : gG E M p l e R s m args below meth c Q kc ks pc loc (.int y :: .int x :: st) A L := by
  intro H locs ls hP hS hl
  exact lv_icmp_ge C.1 C.2.1 hd ht (fun h => kt h H locs ls hP hS hl) (fun h => kf h H locs ls hP hS hl)
theorem g_goto {off : Int} {tgt : Nat} (C : mCx E M p s m args meth c) (hd : decode M.2.1 pc = .ok (.goto off, 3)) (ht : (pc : Int) + off = (tgt : Int)) (k : gG E M p l e R s m args below meth c Q kc ks tgt loc st A L) : gG E M p l e R s m args below meth c Q kc ks pc loc st A L := by
  intro H locs ls hP hS hl
  exact lv_goto C.1 C.2.1 hd ht (k H locs ls hP hS hl)
theorem g_ldc (C : mCx E M p s m args meth c) (hd : decode M.2.1 pc = .ok (.ldc 56, 2)) (hM : M.1.cls = "NoViewWithoutQuarrel") (k : gG E M p l e R s m args below meth c Q kc ks (pc + 2) loc (.ref 1002 :: st) A L) : gG E M p l e R s m args below meth c Q kc ks pc loc st A L := by
  intro H locs ls hP hS hl
  exact va_ldcS C.1 C.2.1 (hM ▸ C.2.2.2.2.2.1) C.2.2.2.2.2.2.2.2.2.2.1 hd (k H locs ls hP hS hl)
theorem g_getR {idx k ci j r : Nat} {fs : List Value} (C : mCx E M p s m args meth c) (hd : decode M.2.1 pc = .ok (.getfield idx, 3)) (hf : mFL M.1.cls idx ci j) (hk : (mly E)[k]? = some (.inr (ci, fs))) (hj : fs[j]? = some (.ref r)) (kk : gG E M p l e R s m args below meth c Q kc ks (pc + 3) loc (.ref r :: st) A L) : gG E M p l e R s m args below meth c Q kc ks pc loc (.ref k :: st) A L := by
  intro H locs ls hP hS hl
  obtain ⟨Cn, T, N, h1, h2, h3, h4⟩ := hf
  refine va_get C.1 C.2.1 (q_tb C) h3 C.2.2.2.2.2.1 C.2.2.2.2.2.2.2.1 hP k (mws_get hk) h1 j h2 (q_tb C _ h4) (fun x hx => hx) (v := .ref (mad E r)) ?_ hd (kk H locs ls hP hS hl)
  rw [mfs_get fs 0 j _ hj]; rfl
theorem g_ret {Ph : mP} (C : mCx E M p s m args meth c) (hd : decode M.2.1 pc = .ok (.return_, 1)) (hr : M.2.2.2 = none) (h : Ph none A L) : gG E M p l e R s m args below meth c (MQ below (mQ E Ph) args s kc ks (mfr E)) kc ks pc loc [] A L := by
  intro H locs ls hP hS hl
  exact W.vret C.1 C.2.1 (C.2.2.2.1.trans hr) (fun t ht hW => ⟨⟨none, A, L, rfl, h, by rw [ht]; exact hP⟩, hS.F ht⟩) hS.2.2 hd C.2.2.2.2.1
/-- what a room must hold to call with depth d -/
def gRm (R : Room) (d kc ks : Nat) : Prop := d + 1 ≤ R.frames ∧ 64 + 64 * d ≤ R.locals ∧ kc ≤ R.cells ∧ ks ≤ R.slots
theorem g_rm {maxL : Nat} (h : maxL ≤ 45) (hR : gRm R d kc ks) : (mRm d).frames + 1 ≤ R.frames ∧ 8 + (maxL + 11) + (mRm d).locals ≤ R.locals := ⟨hR.1, by have := hR.2.1; simp only [mRm]; omega⟩
theorem g_call {idx k ci n : Nat} {fs as stk : List Value} {T : u_T} {N : Nat} {M' : mM} (C : mCx E M p s m args meth c) (hw : mWf E) (hR : gRm R d kc ks) (hd : decode M.2.1 pc = .ok (.invokevirtual idx, 3)) (hl : mLV M.1.cls idx M' n) (hk : (mly E)[k]? = some (.inr (ci, fs))) (hc : vwCl[ci]? = some (M'.1.cls, T, N)) (hn : as.length = n) (hst : stk = as.reverse ++ .ref k :: st) (hcat : (st.map fun v => v.category).sum ≤ 8)
    (h : qC E M' d (.ref k :: as) A L (fun r A' L' => gG E M p l e R s m args below meth c Q kc ks (pc + 3) loc (psh r st) A' L')) : gG E M p l e R s m args below meth c Q kc ks pc loc stk A L := by
  intro H locs ls hP hS hlv
  subst hst
  refine l_run (E := E) (rest := st.map (mup E)) (va_runV (b := mad E k) (As := as.map (mup E)) (C := M'.1.cls) ⟨C.1, C.2.1, C.2.2.1, C.2.2.2.2.2.1, C.2.2.2.2.2.2.1⟩ (h hw l) (cwV n C.2.2.2.2.2.2.1 (q_good1 hl) rfl rfl rfl ⟨rfl, hl.2.2.2.2.2.1⟩ (g_rm hl.2.2.2.2.2.2 hR)) ⟨q_blind, va_recv C.2.2.2.2.2.2.2.1 hP hc (mws_get hk), q_pre hP hS C.2.2.2.2.2.2.2.1 C.2.2.2.2.2.2.2.2⟩ rfl (by rw [List.length_map]; exact hn) hlv.1 (by simp [mup, List.map_reverse]) (lv_room (by rw [cat_up]; exact hcat)) hd ⟨hR.2.2.1, hR.2.2.2⟩) hS (fun r A' L' H1 locs1 hp hP1 hS1 => ?_)
  rw [psh_up]
  exact hp H1 locs1 ls hP1 hS1 hlv
theorem g_callX {idx i n : Nat} {as stk : List Value} {M' : mM} (C : mCx E M p s m args meth c) (hw : mWf E) (hR : gRm R d kc ks) (hd : decode M.2.1 pc = .ok (.invokevirtual idx, 3)) (hl : mLV M.1.cls idx M' n) (hM : M'.1.cls = "java/lang/String") (hi : i < 3) (hn : as.length = n) (hst : stk = as.reverse ++ .ref (1002 + i) :: st) (hcat : (st.map fun v => v.category).sum ≤ 8)
    (h : qC E M' d (.ref (1002 + i) :: as) A L (fun r A' L' => gG E M p l e R s m args below meth c Q kc ks (pc + 3) loc (psh r st) A' L')) : gG E M p l e R s m args below meth c Q kc ks pc loc stk A L := by
  intro H locs ls hP hS hlv
  subst hst
  have hrec := vk_recv (A := mfr E) (H := H) (locs := locs) (s := s) C.2.2.2.2.2.2.2.2.2.1 hi hS
  refine l_run (E := E) (rest := st.map (mup E)) (va_runV (b := mad E (1002 + i)) (As := as.map (mup E)) (C := M'.1.cls) ⟨C.1, C.2.1, C.2.2.1, C.2.2.2.2.2.1, C.2.2.2.2.2.2.1⟩ (h hw l) (cwV n C.2.2.2.2.2.2.1 (q_good1 hl) rfl rfl rfl ⟨rfl, hl.2.2.2.2.2.1⟩ (g_rm hl.2.2.2.2.2.2 hR)) ⟨q_blind, by rw [hM]; exact hrec, q_pre hP hS C.2.2.2.2.2.2.2.1 C.2.2.2.2.2.2.2.2⟩ rfl (by rw [List.length_map]; exact hn) hlv.1 (by simp [mup, List.map_reverse]) (lv_room (by rw [cat_up]; exact hcat)) hd ⟨hR.2.2.1, hR.2.2.2⟩) hS (fun r A' L' H1 locs1 hp hP1 hS1 => ?_)
  rw [psh_up]
  exact hp H1 locs1 ls hP1 hS1 hlv
end GRULES
