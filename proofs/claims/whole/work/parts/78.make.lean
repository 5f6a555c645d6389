/-! calls of constructors, and arrays of objects -/
theorem n_blind {E : mE} {A : mA} {L : mJ} {ns : List (Nat × mK)} {z : Nat} {as : List Value} : FrameBlind (va_Pc as (nPre E A L ns z)) := by
  intro a U g mk h
  obtain ⟨h1, h2, h3, h4, h5, h6, h7⟩ := h
  exact ⟨h1, h2, h3, h4, h5, va_K.moved (u := U) (U := U.calling g mk a) (Vm.Alike.refl U.vm) h6, h7.calls⟩
section NCALLS
variable {E : mE} {M : mM} {p : Program} {l : Launch} {e : Env} {R : Room} {s : State} {m : MethodId} {args : Array Value} {below : List Frame} {meth : Method} {c : Code} {Q : State → Prop} {kc ks pc z : Nat} {loc : List (Nat × Value)} {st : List Value} {A : mA} {L : mJ} {ns : List (Nat × mK)}
theorem n_pre {as : List Value} {H : Heap} {locs : List Loc} (C : nCx E M p s m args meth c z) (hP : va_P E.1 vwCl (nws E A L ns) H) (hD : va_D (mfr E) (nws E A L ns)) (hz : H.size = s.heap.size + kc) (hS : va_S (mfr E) s.heap H locs) : ∀ U : State, U.heap = H → s.WarmedH U.vm → va_Pc as (nPre E A L ns (z + kc)) as.toArray U := by
  intro U hU hW
  refine ⟨rfl, by rw [hU]; exact hP, hD, by rw [hU, hz, C.2.1], fun q hq => C.2.2.1 q (by omega), va_K.moved hW.alike C.1.2.2.2.2.2.2.2.1, ?_⟩
  rw [hU]
  exact (C.1.2.2.2.2.2.2.2.2.kept hS.2.1).warm hW
theorem n_run {a : Array Value} {H : Heap} {locs : List Loc} {ls : Array Slot} {rest st0 : List Value} {r : Option Value} {A' : mA} {ns' : List (Nat × mK)} {mc ms z' : Nat} (hr : va_Run p l e R s m args below meth c H locs kc ks mc ms (F0 m pc ls st0) rest (nQ E r A' L ns' z' a) (mfr E)) (hS : va_S (mfr E) s.heap H locs) (hz : z' = s.heap.size + (kc + mc))
    (kk : ∀ (H1 : Heap) (locs1 : List Loc), va_P E.1 vwCl (nws E A' L ns') H1 → va_D (mfr E) (nws E A' L ns') → H1.size = s.heap.size + (kc + mc) → va_S (mfr E) s.heap H1 locs1 → W p l e R s m args below meth c H1 locs1 (kc + mc) (ks + ms) Q (F0 m (pc + 3) ls ((r.map (mup E)).toList ++ rest))) : W p l e R s m args below meth c H locs kc ks Q (F0 m pc ls st0) := by
  intro T hT X
  obtain ⟨v, st₀, t, T', Lc, h0, X', hL, e1, e2, ⟨⟨hv, hP, hD, hzz⟩, hzs, hk⟩, stp⟩ := hr T hT X
  cases hv
  rw [h0] at hzs hk
  obtain ⟨t2, a1, b1⟩ := kk T'.heap (locs ++ Lc) (by rw [e1]; exact hP) hD (by rw [e1, hzz, hz]) ⟨Nat.le_trans hS.1 (by rw [e1]; exact hzs), fun q h1 h2 => by rw [e1, hk q (Nat.lt_of_lt_of_le h1 hS.1) h2]; exact hS.2.1 q h1 h2, fun q hq => by
      rcases List.mem_append.mp hq with h | h
      · exact hS.2.2 q h
      · exact hL q h⟩ T' rfl X'
  exact ⟨t2, stp t2 a1, b1⟩
/-- the room that a called constructor has -/
def nRm (R R' : Room) (maxL mc ms kc ks : Nat) : Prop := (R'.cells = mc ∧ R'.slots = ms) ∧ (R'.frames + 1 ≤ R.frames ∧ 8 + (maxL + 11) + R'.locals ≤ R.locals) ∧ (kc + mc ≤ R.cells ∧ ks + ms ≤ R.slots)
theorem k_init {idx k n mc ms : Nat} {as stk : List Value} {M' : mM} {R' : Room} {A' : mA} {ns' : List (Nat × mK)} (C : nCx E M p s m args meth c z) (hd : decode M.2.1 pc = .ok (.invokespecial idx, 3)) (hl : Cond.methodLink M.1.cls idx M'.1 ∈ mTb) (hi : Cond.instanceMethod M'.1 ∈ mTb) (hok : mOk M' n) (hy : M'.1.name = "<init>") (hrt : M'.2.2.2 = none) (hn : as.length = n) (hst : stk = as.reverse ++ .ref k :: st) (hcat : (st.map fun v => v.category).sum ≤ 8) (hR : nRm R R' M'.2.2.1 mc ms kc ks)
    (h : nC E M' R' mc ms (.ref k :: as) A L ns (z + kc) none A' ns') (kk : nG E M p l e R s m args below meth c Q (kc + mc) (ks + ms) (pc + 3) loc st A' L ns') : nG E M p l e R s m args below meth c Q kc ks pc loc stk A L ns := by
  intro H locs ls hP hD hz hS hlv
  subst hst
  have tb := q_tb C.1
  obtain ⟨y, b, mL, rt⟩ := M'
  cases hrt
  refine n_run (E := E) (rest := st.map (mup E)) (va_runI (b := mad E k) (As := as.map (mup E)) ⟨C.1.1, C.1.2.1, C.1.2.2.1, C.1.2.2.2.2.2.1, C.1.2.2.2.2.2.2.1⟩ (h l) (cwI n C.1.2.2.2.2.2.2.1 (mWs_good hok.1) rfl hR.1.1 hR.1.2 (tb _ hok.2.1) (tb _ hl) (tb _ hi) hy hok.2.2.1 hR.2.1) ⟨n_blind, n_pre C hP hD hz hS⟩ rfl (by rw [List.length_map]; exact hn) hlv.1 (by simp [mup, List.map_reverse]) (lv_room (by rw [cat_up]; exact hcat)) hd hR.2.2) hS (by rw [C.2.1]; omega) (fun H1 locs1 hP1 hD1 hz1 hS1 => ?_)
  exact kk H1 locs1 ls hP1 hD1 hz1 hS1 hlv
theorem k_initN {idx k n mc ms : Nat} {host : String} {as stk : List Value} {M' : mM} {R' : Room} {A' : mA} {ns' : List (Nat × mK)} (C : nCx E M p s m args meth c z) (hd : decode M.2.1 pc = .ok (.invokespecial idx, 3)) (hl : va_Nw (.methodLinkNest M.1.cls idx M'.1 host) s) (hi : Cond.instanceMethod M'.1 ∈ mTb) (hok : mOk M' n) (hy : M'.1.name = "<init>") (hrt : M'.2.2.2 = none) (hn : as.length = n) (hst : stk = as.reverse ++ .ref k :: st) (hcat : (st.map fun v => v.category).sum ≤ 8) (hR : nRm R R' M'.2.2.1 mc ms kc ks)
    (h : nC E M' R' mc ms (.ref k :: as) A L ns (z + kc) none A' ns') (kk : nG E M p l e R s m args below meth c Q (kc + mc) (ks + ms) (pc + 3) loc st A' L ns') : nG E M p l e R s m args below meth c Q kc ks pc loc stk A L ns := by
  intro H locs ls hP hD hz hS hlv
  subst hst
  have tb := q_tb C.1
  obtain ⟨y, b, mL, rt⟩ := M'
  cases hrt
  refine n_run (E := E) (rest := st.map (mup E)) (va_runIN (b := mad E k) (As := as.map (mup E)) ⟨C.1.1, C.1.2.1, C.1.2.2.1, C.1.2.2.2.2.2.1, C.1.2.2.2.2.2.2.1⟩ (h l) ⟨va_cnB n C.1.2.2.2.2.2.2.1 (mWs_good hok.1) rfl hR.1.1 hR.1.2 hl (tb _ hok.2.1) hok.2.2.1 hR.2.1, hy, tb _ hi⟩ ⟨n_blind, n_pre C hP hD hz hS⟩ rfl (by rw [List.length_map]; exact hn) hlv.1 (by simp [mup, List.map_reverse]) (lv_room (by rw [cat_up]; exact hcat)) hd hR.2.2) hS (by rw [C.2.1]; omega) (fun H1 locs1 hP1 hD1 hz1 hS1 => ?_)
  exact kk H1 locs1 ls hP1 hD1 hz1 hS1 hlv
theorem k_getR {idx i k ci j r : Nat} {fs : List Value} (C : nCx E M p s m args meth c z) (hd : decode M.2.1 pc = .ok (.getfield idx, 3)) (hf : mFL M.1.cls idx ci j) (hk : ns[i]? = some (k, .inr (ci, fs))) (hj : fs[j]? = some (.ref r)) (kk : nG E M p l e R s m args below meth c Q kc ks (pc + 3) loc (.ref r :: st) A L ns) : nG E M p l e R s m args below meth c Q kc ks pc loc (.ref k :: st) A L ns := by
  intro H locs ls hP hD hz hS hl
  obtain ⟨Cn, T, N, h1, h2, h3, h4⟩ := hf
  refine va_get C.1.1 C.1.2.1 (q_tb C.1) h3 C.1.2.2.2.2.2.1 C.1.2.2.2.2.2.2.2.1 hP i (nws_get hk) h1 j h2 (q_tb C.1 _ h4) (fun x hx => hx) (v := .ref (mad E r)) ?_ hd (kk H locs ls hP hD hz hS hl)
  rw [mfs_get fs 0 j _ hj]; rfl
theorem k_anew {idx k : Nat} {Cn : String} (C : nCx E M p s m args meth c z) (hd : decode M.2.1 pc = .ok (.anewarray idx, 3)) (hcl : Cond.classLink M.1.cls idx Cn ∈ mTb) (hCn : Cn = "NoViewWithoutQuarrel$Sheet") (hov : va_AO Cn s) (hk : mad E k = z + kc) (hkc : kc + 1 ≤ R.cells) (hks : ks + 4 ≤ R.slots)
    (kk : nG E M p l e R s m args below meth c Q (kc + 1) (ks + 4) (pc + 3) loc (.ref k :: st) A L ((k, .inl (4, 4, [none, none, none, none])) :: ns)) : nG E M p l e R s m args below meth c Q kc ks pc loc (.int 4 :: st) A L ns := by
  intro H locs ls hP hD hz hS hl
  have hzk : H.size = mad E k := by rw [hk, hz, C.2.1]
  refine W.anew C.1.1 C.1.2.1 C.1.2.2.2.2.2.1 (q_tb C.1 _ hcl) (va_AO.use hov) rfl hd rfl (by decide) (by decide) hkc hks (fun cA kA comp f1 f2 f3 f4 => ?_)
  generalize hH1 : H.push ({ cls := cA, slots := Array.replicate (4 : Int32).toNatClampNeg .null, vm := .none } : Cell) = H1
  have z1 : H1.size = H.size + 1 := by rw [← hH1, Array.size_push]
  have e1 : H1[H.size]? = some (arrV cA 4 (fun _ => .null)) := by rw [← hH1, Array.getElem?_push_size, ← arrV_new]; rfl
  have o1 : ∀ q : Nat, q < H.size → H1[q]? = H[q]? := fun q hq => by rw [← hH1, Array.getElem?_push, if_neg (Nat.ne_of_lt hq)]
  subst hCn
  have hc : cA = E.2.1 4 := by
    obtain ⟨_, _, -, -, -, g⟩ := (C.1.2.2.2.2.2.2.2.1.2 4 (E.2.1 4, .object "NoViewWithoutQuarrel$Sheet") rfl).2
    exact Option.some.inj (f1.symm.trans g)
  subst hc
  rw [hzk]
  refine kk H1 locs ls ?_ ?_ (by rw [z1, hz]; omega) ?_ hl
  · refine nP_cons (hP.kept (fun i x hx => o1 x.1 ((hP i x hx).lt))) ?_
    show H1[mad E k]? = some (vp_cell _ _)
    rw [← hzk, e1]
    show _ = some (vp_cell (E.2.1 4) (4, .inr (.inr (.inr (.inr (fun i => (([none, none, none, none] : List (Option Nat)).getD i none).map (mad E)))))))
    rw [vp_cell_q]
    congr 2
    funext i
    match i with
    | 0 => rfl
    | 1 => rfl
    | 2 => rfl
    | 3 => rfl
    | _ + 4 => rfl
  · exact nD_cons hD (fun i x hx => by rw [← hzk]; exact (hP i x hx).lt) (C.2.2.1 _ (by rw [hk]; omega))
  · exact ⟨Nat.le_trans hS.1 (by rw [z1]; omega), fun x h1 h2 => (o1 x (Nat.lt_of_lt_of_le h1 hS.1)).trans (hS.2.1 x h1 h2), hS.2.2⟩
theorem rs_up {f : Nat → Nat} {rs : List (Option Nat)} {j v : Nat} (hj : j < rs.length) : va_up (fun i => (rs.getD i none).map f) j (some (f v)) = fun i => ((rs.set j (some v)).getD i none).map f := by
  funext i
  by_cases h : i = j
  · subst h
    rw [va_up_eq]
    simp [List.getD, hj]
  · rw [va_up_no h]
    simp only [List.getD, List.getElem?_set_ne (Ne.symm h)]
theorem k_aast {i k j iv v n : Nat} {rs : List (Option Nat)} {fs : List Value} (C : nCx E M p s m args meth c z) (hd : decode M.2.1 pc = .ok (.aastore, 1)) (hk : ns[i]? = some (k, .inl (4, n, rs))) (hn : n < 2 ^ 31) (hj : j < n) (hjr : j < rs.length) (hv : ns[iv]? = some (v, .inr (3, fs)))
    (kk : nG E M p l e R s m args below meth c Q kc ks (pc + 1) loc st A L (ns.set i (k, .inl (4, n, rs.set j (some v))))) : nG E M p l e R s m args below meth c Q kc ks pc loc (.ref v :: .int (nI j) :: .ref k :: st) A L ns := by
  intro H locs ls hP hD hz hS hl
  refine va_astq (H0 := H) (r := (RX3, TX3, 3)) C.1.1 C.1.2.1 C.1.2.2.2.2.2.2.2.1 hP hD ⟨Nat.le_refl _, fun _ _ _ => rfl, hS.2.2⟩ i 4 iv 3 (nws_get hk) rfl (nws_get hv) rfl (vp_in_nI hj hn) hd (fun H1 locs1 hP1 hD1 hS1 => ?_)
  rw [nI_clamp (by omega), rs_up hjr] at hP1 hD1
  have e1 : (mad E k, (Sum.inl (E.2.1 4, n, .inr (.inr (.inr (.inr (fun i => ((rs.set j (some v)).getD i none).map (mad E))))) ) : va_E)) = (mad E k, mce E A L k (.inl (4, n, rs.set j (some v)))) := rfl
  rw [e1, nws_set] at hP1 hD1
  refine w_bound (fun hb => ?_)
  exact kk H1 locs1 ls hP1 hD1 (Nat.le_antisymm hb (by rw [← hz]; exact hS1.1)) (hS.tr hS1) hl
end NCALLS
