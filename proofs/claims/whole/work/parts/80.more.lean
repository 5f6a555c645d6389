/-! more rules for the reference's constructor -/
section NMORE
variable {E : mE} {M : mM} {p : Program} {l : Launch} {e : Env} {R : Room} {s : State} {m : MethodId} {args : Array Value} {below : List Frame} {meth : Method} {c : Code} {Q : State → Prop} {kc ks pc z : Nat} {loc : List (Nat × Value)} {st : List Value} {A : mA} {L : mJ} {ns : List (Nat × mK)}
theorem k_iast {i k j n : Nat} {x : Int32} {rs : List (Option Nat)} (C : nCx E M p s m args meth c z) (hd : decode M.2.1 pc = .ok (.iastore, 1)) (hk : ns[i]? = some (k, .inl (0, n, rs))) (hn : n < 2 ^ 31) (hj : j < n)
    (kk : nG E M p l e R s m args below meth c Q kc ks (pc + 1) loc st (s2 A k j x) L ns) : nG E M p l e R s m args below meth c Q kc ks pc loc (.int x :: .int (nI j) :: .ref k :: st) A L ns := by
  intro H locs ls hP hD hz hS hl
  refine va_iast (H0 := H) C.1.1 C.1.2.1 C.1.2.2.2.2.2.2.2.1 hP hD ⟨Nat.le_refl _, fun _ _ _ => rfl, hS.2.2⟩ i 0 (nws_get hk) rfl (vp_in_nI hj hn) hd (fun H1 locs1 hP1 hD1 hS1 => ?_)
  rw [nI_clamp (by omega), nws_mem hD hk (X := .inl (E.2.1 0, n, .inl (upd (A k) j x))) (A' := s2 A k j x) (L' := L) (fun q hq => s2_ne hq) (fun _ _ => rfl) (by show Sum.inl (E.2.1 0, n, Sum.inl (s2 A k j x k)) = _; rw [s2_eq])] at hP1 hD1
  refine w_bound (fun hb => ?_)
  exact kk H1 locs1 ls hP1 hD1 (Nat.le_antisymm hb (by rw [← hz]; exact hS1.1)) (hS.tr hS1) hl
theorem k_cast {i k j n : Nat} {x : Int32} {rs : List (Option Nat)} (C : nCx E M p s m args meth c z) (hd : decode M.2.1 pc = .ok (.castore, 1)) (hk : ns[i]? = some (k, .inl (2, n, rs))) (hn : n < 2 ^ 31) (hj : j < n) (hx : vp_nar .char x = x)
    (kk : nG E M p l e R s m args below meth c Q kc ks (pc + 1) loc st (s2 A k j x) L ns) : nG E M p l e R s m args below meth c Q kc ks pc loc (.int x :: .int (nI j) :: .ref k :: st) A L ns := by
  intro H locs ls hP hD hz hS hl
  refine va_cast (H0 := H) C.1.1 C.1.2.1 C.1.2.2.2.2.2.2.2.1 hP hD ⟨Nat.le_refl _, fun _ _ _ => rfl, hS.2.2⟩ i 2 (nws_get hk) rfl (vp_in_nI hj hn) hd (fun H1 locs1 hP1 hD1 hS1 => ?_)
  rw [nI_clamp (by omega), hx, nws_mem hD hk (X := .inl (E.2.1 2, n, .inl (upd (A k) j x))) (A' := s2 A k j x) (L' := L) (fun q hq => s2_ne hq) (fun _ _ => rfl) (by show Sum.inl (E.2.1 2, n, Sum.inl (s2 A k j x k)) = _; rw [s2_eq])] at hP1 hD1
  refine w_bound (fun hb => ?_)
  exact kk H1 locs1 ls hP1 hD1 (Nat.le_antisymm hb (by rw [← hz]; exact hS1.1)) (hS.tr hS1) hl
theorem k_iald {i k j n : Nat} {v : Int32} {rs : List (Option Nat)} (C : nCx E M p s m args meth c z) (hd : decode M.2.1 pc = .ok (.iaload, 1)) (hk : ns[i]? = some (k, .inl (0, n, rs))) (hn : n < 2 ^ 31) (hj : j < n) (hv : A k j = v)
    (kk : nG E M p l e R s m args below meth c Q kc ks (pc + 1) loc (.int v :: st) A L ns) : nG E M p l e R s m args below meth c Q kc ks pc loc (.int (nI j) :: .ref k :: st) A L ns := by
  intro H locs ls hP hD hz hS hl
  subst hv
  refine va_iald C.1.1 C.1.2.1 C.1.2.2.2.2.2.2.2.1 hP i 0 (nws_get hk) rfl (vp_in_nI hj hn) hd ?_
  rw [nI_clamp (by omega)]
  exact kk H locs ls hP hD hz hS hl
theorem k_iload {n : Fin 4} {x : Int32} (C : nCx E M p s m args meth c z) (hd : decode M.2.1 pc = .ok (.iload_n n, 1)) (h : mlk loc n.val = some (.int x)) (k : nG E M p l e R s m args below meth c Q kc ks (pc + 1) loc (.int x :: st) A L ns) : nG E M p l e R s m args below meth c Q kc ks pc loc st A L ns := by
  intro H locs ls hP hD hz hS hl
  exact lv_iload_n C.1.1 C.1.2.1 hd rfl (lv_lk hl h) (k H locs ls hP hD hz hS hl)
theorem k_istore {n : Fin 4} {x : Int32} {loc' : List (Nat × Value)} (C : nCx E M p s m args meth c z) (hd : decode M.2.1 pc = .ok (.istore_n n, 1)) (hn : n.val < M.2.2.1) (h : mst loc n.val (.int x) = loc') (k : nG E M p l e R s m args below meth c Q kc ks (pc + 1) loc' st A L ns) : nG E M p l e R s m args below meth c Q kc ks pc loc (.int x :: st) A L ns := by
  intro H locs ls hP hD hz hS hl
  subst h
  exact lv_istore_n C.1.1 C.1.2.1 hd rfl hl hn (mst_up E loc n.val (.int x)) (fun ls' hl' => k H locs ls' hP hD hz hS hl')
theorem k_astore {n : Fin 4} {x : Nat} {loc' : List (Nat × Value)} (C : nCx E M p s m args meth c z) (hd : decode M.2.1 pc = .ok (.astore_n n, 1)) (hn : n.val < M.2.2.1) (h : mst loc n.val (.ref x) = loc') (k : nG E M p l e R s m args below meth c Q kc ks (pc + 1) loc' st A L ns) : nG E M p l e R s m args below meth c Q kc ks pc loc (.ref x :: st) A L ns := by
  intro H locs ls hP hD hz hS hl
  subst h
  exact lv_astore_n C.1.1 C.1.2.1 hd rfl hl hn (mst_up E loc n.val (.ref x)) (fun ls' hl' => k H locs ls' hP hD hz hS hl')
theorem k_iinc {i : Nat} {n : Int} {x v : Int32} {loc' : List (Nat × Value)} (C : nCx E M p s m args meth c z) (hd : decode M.2.1 pc = .ok (.iinc i n, 3)) (hx : mlk loc i = some (.int x)) (hv : x + Int32.ofInt n = v) (hn : i < M.2.2.1) (h : mst loc i (.int v) = loc') (k : nG E M p l e R s m args below meth c Q kc ks (pc + 3) loc' st A L ns) : nG E M p l e R s m args below meth c Q kc ks pc loc st A L ns := by
  intro H locs ls hP hD hz hS hl
  subst h
  obtain ⟨q, hq⟩ := List.getElem?_of_mem (List.mem_map.mpr ⟨(i, .int x), mlk_mem _ _ _ hx, rfl⟩ : (i, mup E (.int x)) ∈ loc.map (fun q => (q.1, mup E q.2)))
  exact lv_iinc C.1.1 C.1.2.1 hd hl hq hv hn (mst_up E loc i (.int v)) (fun ls' hl' => k H locs ls' hP hD hz hS hl')
theorem k_ge {x y : Int32} {off : Int} {tgt : Nat} (C : nCx E M p s m args meth c z) (hd : decode M.2.1 pc = .ok (.if_icmp .ge off, 3)) (ht : (pc : Int) + off = (tgt : Int)) (kt : y ≤ x → nG E M p l e R s m args below meth c Q kc ks tgt loc st A L ns) (kf : ¬ y ≤ x → nG E M p l e R s m args below meth c Q kc ks (pc + 3) loc st A L ns) : nG E M p l e R s m args below meth c Q kc ks pc loc (.int y :: .int x :: st) A L ns := by
  intro H locs ls hP hD hz hS hl
  exact lv_icmp_ge C.1.1 C.1.2.1 hd ht (fun h => kt h H locs ls hP hD hz hS hl) (fun h => kf h H locs ls hP hD hz hS hl)
theorem k_goto {off : Int} {tgt : Nat} (C : nCx E M p s m args meth c z) (hd : decode M.2.1 pc = .ok (.goto off, 3)) (ht : (pc : Int) + off = (tgt : Int)) (k : nG E M p l e R s m args below meth c Q kc ks tgt loc st A L ns) : nG E M p l e R s m args below meth c Q kc ks pc loc st A L ns := by
  intro H locs ls hP hD hz hS hl
  exact lv_goto C.1.1 C.1.2.1 hd ht (k H locs ls hP hD hz hS hl)
theorem k_iret {v : Int32} {A' : mA} {ns' : List (Nat × mK)} {z' : Nat} (C : nCx E M p s m args meth c z) (hd : decode M.2.1 pc = .ok (.ireturn, 1)) (hr : M.2.2.2 = some .int) (h1 : A = A') (h2 : ns = ns') (h3 : z' = z + kc) : nG E M p l e R s m args below meth c (MQ below (nQ E (some (.int v)) A' L ns' z') args s kc ks (mfr E)) kc ks pc loc [.int v] A L ns := by
  intro H locs ls hP hD hz hS hl
  subst h1; subst h2; subst h3
  exact W.zret C.1.1 C.1.2.1 (C.1.2.2.2.1.trans hr) rfl (fun t ht hW => ⟨⟨rfl, by rw [ht]; exact hP, hD, by rw [ht, hz, C.2.1]⟩, hS.F ht⟩) hS.2.2 hd C.1.2.2.2.2.1
theorem k_callV {idx i k ci n mc ms : Nat} {fs as stk : List Value} {T : u_T} {N : Nat} {M' : mM} {R' : Room} {A' : mA} {ns' : List (Nat × mK)} {r : Option Value} (C : nCx E M p s m args meth c z) (hd : decode M.2.1 pc = .ok (.invokevirtual idx, 3)) (hl : mLV M.1.cls idx M' n) (hk : ns[i]? = some (k, .inr (ci, fs))) (hc : vwCl[ci]? = some (M'.1.cls, T, N)) (hn : as.length = n) (hst : stk = as.reverse ++ .ref k :: st) (hcat : (st.map fun v => v.category).sum ≤ 8) (hR : nRm R R' M'.2.2.1 mc ms kc ks)
    (h : nC E M' R' mc ms (.ref k :: as) A L ns (z + kc) r A' ns') (kk : nG E M p l e R s m args below meth c Q (kc + mc) (ks + ms) (pc + 3) loc (psh r st) A' L ns') : nG E M p l e R s m args below meth c Q kc ks pc loc stk A L ns := by
  intro H locs ls hP hD hz hS hlv
  subst hst
  refine n_run (E := E) (rest := st.map (mup E)) (va_runV (b := mad E k) (As := as.map (mup E)) (C := M'.1.cls) ⟨C.1.1, C.1.2.1, C.1.2.2.1, C.1.2.2.2.2.2.1, C.1.2.2.2.2.2.2.1⟩ (h l) (cwV n C.1.2.2.2.2.2.2.1 (q_good1 hl) rfl hR.1.1 hR.1.2 ⟨rfl, hl.2.2.2.2.2.1⟩ hR.2.1) ⟨n_blind, va_recv C.1.2.2.2.2.2.2.2.1 hP hc (nws_get hk), n_pre C hP hD hz hS⟩ rfl (by rw [List.length_map]; exact hn) hlv.1 (by simp [mup, List.map_reverse]) (lv_room (by rw [cat_up]; exact hcat)) hd hR.2.2) hS (by rw [C.2.1]; omega) (fun H1 locs1 hP1 hD1 hz1 hS1 => ?_)
  rw [psh_up]
  exact kk H1 locs1 ls hP1 hD1 hz1 hS1 hlv
end NMORE
