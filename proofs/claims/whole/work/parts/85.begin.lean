/-! from the law's entry to its loop -/
def mkE (D : va_G) (cid : Nat → ClassId) (x0 : Nat → Nat) (h : Nat) (ly : List mK) : mE := (D, cid, fun k => if k < 59 then h + offA k else x0 k, fun q => h ≤ q, ly)
theorem mkE_lo {D : va_G} {cid : Nat → ClassId} {x0 : Nat → Nat} {h : Nat} {ly : List mK} {k : Nat} (hk : k < 59) : mad (mkE D cid x0 h ly) k = h + offA k := if_pos hk
theorem mkE_hi {D : va_G} {cid : Nat → ClassId} {x0 : Nat → Nat} {h : Nat} {ly : List mK} {k : Nat} (hk : 1000 ≤ k) : mad (mkE D cid x0 h ly) k = x0 k := if_neg (by omega)
theorem mkE_wf {D : va_G} {cid : Nat → ClassId} {x0 : Nat → Nat} {h : Nat} {ly : List mK} (hl : ly.length ≤ 58) : mWf (mkE D cid x0 h ly) := by
  refine ⟨fun i j hi hj e => ?_, fun k hk => ?_⟩
  · have hi : i < ly.length := hi
    have hj : j < ly.length := hj
    rw [mkE_lo (by omega), mkE_lo (by omega)] at e
    exact offA_inj i (by omega) j (by omega) (by omega)
  · have hk : k < ly.length := hk
    rw [mkE_lo (by omega)]
    show h ≤ h + offA k
    omega
def mmL : mM := (x, code, maxLocals, ret)
theorem x6_warm {s U : State} (hW : s.WarmedH U.vm) (h : nX6 s) : nX6 U := by
  obtain ⟨h1, h2, h3, h4, h5⟩ := h
  exact ⟨va_Nw.warmM hW h1, va_Nw.warmM hW h2, va_Nw.warmM hW h3, va_Nw.warmM hW h4, va_AO.moved hW.alike h5⟩
theorem x6_blind {E : mE} {A : mA} {L : mJ} {ns : List (Nat × mK)} {z : Nat} {as : List Value} : FrameBlind (va_Pc as (fun U => nPre E A L ns z U ∧ nX6 U)) := by
  intro a U g mk h
  obtain ⟨h1, h2, hx⟩ := h
  obtain ⟨h3, h4⟩ := n_blind (E := E) (A := A) (L := L) (ns := ns) (z := z) (as := as) a U g mk ⟨h1, h2⟩
  obtain ⟨g1, g2, g3, g4, g5⟩ := hx
  exact ⟨h3, h4, g1.same rfl rfl, g2.same rfl rfl, g3.same rfl rfl, g4.same rfl rfl, va_AO.moved (u := U) (U := U.calling g mk a) (Vm.Alike.refl U.vm) g5⟩
section BEGIN
variable {E : mE} {p : Program} {l : Launch} {e : Env} {s : State} {m : MethodId} {below : List Frame} {meth : Method} {c : Code} {Q : State → Prop} {kc ks pc : Nat}
theorem c_run {R : Room} {args a : Array Value} {H : Heap} {locs : List Loc} {ls : Array Slot} {rest st0 : List Value} {Ps : mP} {mc ms : Nat} (hr : va_Run p l e R s m args below meth c H locs kc ks mc ms (F0 m pc ls st0) rest (mQ E Ps a) (mfr E)) (hS : va_S (mfr E) s.heap H locs)
    (kk : ∀ (r : Option Value) (A' : mA) (L' : mJ) (H1 : Heap) (locs1 : List Loc), Ps r A' L' → va_P E.1 vwCl (mws E A' L') H1 → va_S (mfr E) s.heap H1 locs1 → W p l e R s m args below meth c H1 locs1 (kc + mc) (ks + ms) Q (F0 m (pc + 3) ls ((r.map (mup E)).toList ++ rest))) : W p l e R s m args below meth c H locs kc ks Q (F0 m pc ls st0) := by
  intro T hT X
  obtain ⟨v, st₀, t, T', Lc, h0, X', hL, e1, e2, ⟨⟨r, A', L', hv, hp, hP⟩, hz, hk⟩, stp⟩ := hr T hT X
  cases hv
  rw [h0] at hz hk
  obtain ⟨t2, a1, b1⟩ := kk r A' L' T'.heap (locs ++ Lc) hp (by rw [e1]; exact hP) ⟨Nat.le_trans hS.1 (by rw [e1]; exact hz), fun q h1 h2 => by rw [e1, hk q (Nat.lt_of_lt_of_le h1 hS.1) h2]; exact hS.2.1 q h1 h2, fun q hq => by
      rcases List.mem_append.mp hq with h | h
      · exact hS.2.2 q h
      · exact hL q h⟩ T' rfl X'
  exact ⟨t2, stp t2 a1, b1⟩
/-- behind both constructors -/
theorem law_two {D : va_G} {cid : Nat → ClassId} {x0 : Nat → Nat} {b Ln : Nat} {xs : Nat → Int32} {A : mA} {L : mJ} (C : nCx (mkE D cid x0 s.heap.size (mLc ++ mLm)) mmL p s m #[Value.ref b] meth c s.heap.size) (hb0 : x0 1000 = b) (hX : va_X b Ln xs s s.heap) (hbl : b < s.heap.size) (hL : Ln ≤ 3072) (hRC : RC A S0 1 0 0) :
    nG (mkE D cid x0 s.heap.size (mLc ++ mLm)) mmL p l e room_1 s m #[Value.ref b] below meth c (lw_Z below #[Value.ref b] s) 38 2849 7 [(0, .ref 1000)] [.ref 0] (mix A) (mixL L) (enL 0 mLc) := by
  have hm : ∀ k, 38 ≤ k ∧ k < 59 → mad (mkE D cid x0 s.heap.size (mLc ++ mLm)) k = s.heap.size + 38 + offM.getD (k - 38) 0 := fun k hk => by
    rw [mkE_lo hk.2]
    unfold offA
    rw [if_neg (by omega)]
    omega
  have e1000 : mad (mkE D cid x0 s.heap.size (mLc ++ mLm)) 1000 = b := (mkE_hi (Nat.le_refl _)).trans hb0
  have h38 : mad (mkE D cid x0 s.heap.size (mLc ++ mLm)) 38 = s.heap.size + 38 := hm 38 (by decide)
  refine k_astore (loc' := [(1, .ref 0), (0, .ref 1000)]) C dL_law_7 (by decide) rfl ?_
  refine k_new (k := 38) C dL_law_8 nw_L_10 rfl h38 (by decide) (by decide) ?_
  refine k_dup C dL_law_11 ?_
  refine k_init (M' := mm_X7_init) (mc := 20) (ms := 2977) (as := []) C dL_law_12 (mTb_of 901 (by decide +kernel) rfl) iw_X7 ok_X7_init rfl rfl rfl rfl (Nat.le_of_ble_eq_true rfl) (nRm_of rfl rfl (by decide) (by decide) (by decide) (by decide)) (nb_X7 (h := s.heap.size + 38) hm) ?_
  refine k_astore (loc' := [(2, .ref 38), (1, .ref 0), (0, .ref 1000)]) C dL_law_15 (by decide) rfl ?_
  refine k_iconst (v := nI 0) C dL_law_16 rfl ?_
  refine k_istore (loc' := [(3, .int (nI 0)), (2, .ref 38), (1, .ref 0), (0, .ref 1000)]) C dL_law_17 (by decide) rfl ?_
  intro H locs ls hP hD hz hS hl
  have CL : lX (mkE D cid x0 s.heap.size (mLc ++ mLm)) p s m meth c b Ln (38 + 1 + 20) (2849 + 32 + 2977) xs := ⟨C.1.1, C.1.2.1, C.1.2.2.1, C.1.2.2.2.2.2.1, q_tb C.1, ⟨C.1.2.2.2.1, C.1.2.2.2.2.1⟩, ⟨hX, hbl, fun z => absurd hbl (Nat.not_lt.mpr z), hL⟩, mkE_wf (by decide), rfl, C.1.2.2.2.2.2.2.2.1, C.1.2.2.2.2.2.2.2.2, fun q hq => hq, by decide, by decide⟩
  refine law_loop CL 3072 0 (A7 A) (mixL L) S0 1 0 0 (Nat.zero_le _) (by omega) WfS_first (RC.low hRC (fun k hk => A7_low hk)) RM_first H locs ls (nP_mem hP n7_all) hS ⟨hl.1, hl.2.1, fun q hq => ?_⟩
  have h := hl.2.2
  simp only [List.map_cons, List.map_nil, mup, e1000] at h
  refine h q ?_
  simp only [List.mem_cons, List.not_mem_nil, or_false] at hq ⊢
  rcases hq with rfl | rfl | rfl | rfl
  · exact Or.inl rfl
  · exact Or.inr (Or.inr (Or.inr rfl))
  · exact Or.inr (Or.inr (Or.inl rfl))
  · exact Or.inr (Or.inl rfl)
theorem law_one {D : va_G} {cid : Nat → ClassId} {x0 : Nat → Nat} {b Ln : Nat} {xs : Nat → Int32} (C : nCx (mkE D cid x0 s.heap.size mLc) mmL p s m #[Value.ref b] meth c s.heap.size) (C2 : nCx (mkE D cid x0 s.heap.size (mLc ++ mLm)) mmL p s m #[Value.ref b] meth c s.heap.size) (hN : nX6 s) (hb0 : x0 1000 = b) (hX : va_X b Ln xs s s.heap) (hbl : b < s.heap.size) (hL : Ln ≤ 3072) :
    nG (mkE D cid x0 s.heap.size mLc) mmL p l e room_1 s m #[Value.ref b] below meth c (lw_Z below #[Value.ref b] s) 0 0 0 [(0, .ref 1000)] [] zA zL [] := by
  have hm : ∀ k, k < 38 → mad (mkE D cid x0 s.heap.size mLc) k = s.heap.size + offC.getD k 0 := fun k hk => by
    rw [mkE_lo (by omega)]
    unfold offA
    rw [if_pos hk]
  have hw : mWf (mkE D cid x0 s.heap.size mLc) := mkE_wf (by decide)
  refine k_new (k := 0) C dL_law_0 nw_L_7 rfl (hm 0 (by decide)) (by decide) (by decide) ?_
  refine k_dup C dL_law_3 ?_
  intro H locs ls hP hD hz hS hl
  have tb := q_tb C.1
  refine c_run (E := mkE D cid x0 s.heap.size mLc) (rest := [.ref (mad (mkE D cid x0 s.heap.size mLc) 0)]) (mc := 37) (ms := 2841) (va_runI (b := mad (mkE D cid x0 s.heap.size mLc) 0) (As := []) ⟨C.1.1, C.1.2.1, C.1.2.2.1, C.1.2.2.2.2.2.1, C.1.2.2.2.2.2.2.1⟩ (nb_X6 (h := s.heap.size) rfl hw hm l) (cwI 0 C.1.2.2.2.2.2.2.1 (mWs_good ok_X6_init.1) rfl rfl rfl (tb _ ok_X6_init.2.1) (tb _ (mTb_of 96 (by decide +kernel) rfl)) (tb _ iw_X6) rfl ok_X6_init.2.2.1 ⟨by decide, by decide⟩) ⟨x6_blind, fun U hU hW => ?_⟩ rfl rfl hl.1 rfl (lv_room (Nat.le_of_ble_eq_true rfl)) dL_law_4 ⟨by decide, by decide⟩) hS (fun r A' L' H1 locs1 hp hP1 hS1 => ?_)
  · obtain ⟨h1, h2⟩ := n_pre (as := [.ref (mad (mkE D cid x0 s.heap.size mLc) 0)]) C hP hD hz hS U hU hW
    exact ⟨h1, h2, x6_warm hW hN⟩
  · obtain ⟨rfl, hRC⟩ := hp
    have ew : nws (mkE D cid x0 s.heap.size (mLc ++ mLm)) (mix A') (mixL L') (enL 0 mLc) = mws (mkE D cid x0 s.heap.size mLc) A' L' := by
      rw [nws_en]
      exact mwf_cg rfl rfl mLc 0 (fun j hj => by
        have hj : j < 38 := by rw [Nat.zero_add] at hj; exact hj
        exact ⟨if_pos hj, if_pos hj⟩)
    have hD1 := mws_D (A := A') (L := L') hw
    have hlt := (hP1 37 _ (mws_get (k := 37) rfl)).lt
    rw [← ew] at hP1 hD1
    refine w_bound (fun hb => ?_)
    refine law_two (l := l) (e := e) (below := below) C2 hb0 hX hbl hL hRC H1 locs1 ls hP1 hD1 ?_ hS1 hl
    have h37 : mad (mkE D cid x0 s.heap.size mLc) 37 = s.heap.size + 37 := hm 37 (by decide)
    have hlt : mad (mkE D cid x0 s.heap.size mLc) 37 < H1.size := hlt
    omega
end BEGIN
/-- from the entry, for every script of at most 3072 ints, the law comes to its end with true -/
theorem whole_start {p : Program} {e : Env} {s : State} {m : MethodId} {below : List Frame} {meth : Method} {c : Code} (l : Launch) (hflags : l.flags = flags0) {b L : Nat} {xs : Nat → Int32} (hL : L ≤ 3072) (C0 : lw_At p s m meth c b L xs) : W p l e room_1 s m #[Value.ref b] below meth c s.heap [] 0 0 (lw_Z below #[Value.ref b] s) (entryFrame m ([Value.ref b] : List Value).toArray 4) := by
  obtain ⟨hx, hb, hr, hml, hown, hts, hX, hbl, hlk, hgv, hcd, hnm⟩ := C0
  obtain ⟨D, hD⟩ := kn_start hts
  obtain ⟨cid, hcid⟩ := ar_start hts
  obtain ⟨x0, hx0, hout⟩ := out_start hts hgv
  have hC : ∀ ly, nCx (mkE D cid x0 s.heap.size ly) mmL p s m #[Value.ref b] meth c s.heap.size := fun ly => ⟨⟨hx, hb, hml, hr, hlk, hown, fun w hw => by
    rcases List.mem_cons.mp hw with rfl | hw
    · exact hcd
    · exact hts w (mTb_in hw), ⟨hD, hcid _ _ _ _⟩, hout _ (fun k hk => mkE_hi hk) rfl⟩, rfl, fun q hq => hq, hnm⟩
  have hl := lv_entry [Value.ref b] (n := 4) (Nat.le_of_ble_eq_true rfl)
  rw [lg_entry_eq]
  refine law_one (hC mLc) (hC (mLc ++ mLm)) (x6_start hts) hx0 hX hbl hL s.heap [] _ (fun i q hi => by simp [nws] at hi) ⟨fun i j q q' hi => by simp [nws] at hi, fun k q hk => by simp [nws] at hk⟩ rfl va_S.rf ?_
  have e1000 : mad (mkE D cid x0 s.heap.size mLc) 1000 = b := (mkE_hi (Nat.le_refl _)).trans hx0
  simp only [List.map_cons, List.map_nil, mup, e1000]
  exact hl
