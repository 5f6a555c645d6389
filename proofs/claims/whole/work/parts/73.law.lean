/-! THE LAW'S LOOP -/
def lX (E : mE) (p : Program) (s : State) (m : MethodId) (meth : Method) (c : Code) (b Ln kc ks : Nat) (xs : Nat → Int32) : Prop :=
  p.tables.exec = Jvm.exec ∧ c.code = code ∧ c.maxLocals = 4 ∧ s.vm.findClass RL = some m.cls ∧ (∀ w ∈ mTb, w.before #[Value.ref b] s = true) ∧ (meth.sig.returnType = ret ∧ meth.locks = false) ∧ (va_X b Ln xs s s.heap ∧ b < s.heap.size ∧ ¬ mfr E b ∧ Ln ≤ 3072) ∧ mWf E ∧ hM E ∧ va_K E.1 vwCl (mty E) s ∧ mX E s s.heap ∧ (∀ q, mfr E q → s.heap.size ≤ q) ∧ kc ≤ 600000 ∧ ks ≤ 7302250
def lG (E : mE) (p : Program) (l : Launch) (e : Env) (s : State) (m : MethodId) (below : List Frame) (meth : Method) (c : Code) (b kc ks : Nat) (i : Int32) (pc : Nat) (st : List Value) (A : mA) (L : mJ) : Prop :=
  ∀ (H : Heap) (locs : List Loc) (ls : Array Slot), va_P E.1 vwCl (mws E A L) H → va_S (mfr E) s.heap H locs → lv_has ls 4 [(3, .int i), (0, .ref b), (1, .ref (mad E 0)), (2, .ref (mad E 38))] →
    W p l e room_1 s m #[Value.ref b] below meth c H locs kc ks (lw_Z below #[Value.ref b] s) (F0 m pc ls (st.map (mup E)))
theorem lw_and31 (x : Int32) : ∃ k : Nat, k < 32 ∧ x &&& 31 = nI k := by
  refine ⟨(x &&& 31).toBitVec.toNat, ?_, ?_⟩
  · rw [Int32.toBitVec_and, BitVec.toNat_and]
    exact Nat.lt_of_le_of_lt Nat.and_le_right (by decide)
  · apply Int32.toBitVec_inj.mp
    show _ = BitVec.ofNat 32 _
    simp
theorem lw_sub6 {a k : Nat} (ha : a ≤ 3072) (hk : k ≤ 3072) : nI a - 6 < nI k ↔ a < k + 6 := by
  by_cases h : 6 ≤ a
  · have e : nI a - 6 = nI (a - 6) := by
      have : nI a = nI (a - 6) + 6 := by rw [show (6 : Int32) = nI 6 from rfl, nI_add, Nat.sub_add_cancel h]
      rw [this, Int32.add_sub_cancel]
    rw [e, i_lt, nI_toInt (by omega), nI_toInt (by omega)]
    omega
  · have e : (nI a - 6).toInt < 0 := by
      rcases (by omega : a = 0 ∨ a = 1 ∨ a = 2 ∨ a = 3 ∨ a = 4 ∨ a = 5) with rfl | rfl | rfl | rfl | rfl | rfl <;> decide
    rw [i_lt, nI_toInt (n := k) (by omega)]
    omega
section LAWRULES
variable {E : mE} {p : Program} {l : Launch} {e : Env} {s : State} {m : MethodId} {below : List Frame} {meth : Method} {c : Code} {b Ln kc ks : Nat} {xs : Nat → Int32} {pc k : Nat} {st : List Value} {A : mA} {L : mJ}
theorem l_arg {j : Nat} {n : Int} (C : lX E p s m meth c b Ln kc ks xs) (d0 : decode code pc = .ok (.aload_n 0, 1)) (d1 : decode code (pc + 1) = .ok (.iload_n 3, 1)) (d2 : decode code (pc + 2) = .ok (.iconst n, 1)) (d3 : decode code (pc + 3) = .ok (.iadd, 1)) (d4 : decode code (pc + 4) = .ok (.iaload, 1)) (hn : Int32.ofInt n = nI j) (hk : k + j < Ln) (kk : lG E p l e s m below meth c b kc ks (nI k) (pc + 5) (.int (xs (k + j)) :: st) A L) : lG E p l e s m below meth c b kc ks (nI k) pc st A L := by
  intro H locs ls hP hS hl
  obtain ⟨c1, c2, c3, c4, c5, c6, ⟨c7, c8, c9, c10⟩, cr⟩ := C
  refine lv_aload_n c1 c2 d0 rfl (hl.2.2 (0, .ref b) (by simp)) ?_
  refine lv_iload_n c1 c2 d1 rfl (hl.2.2 (3, .int (nI k)) (by simp)) ?_
  refine lv_iconst c1 c2 d2 hn ?_
  refine lv_iadd c1 c2 d3 ?_
  rw [nI_add]
  refine va_sld c1 c2 c7 c8 c9 hS (vp_in_nI hk (by omega)) d4 ?_
  rw [nI_clamp (by omega)]
  exact kk H locs ls hP hS hl
theorem l_ref1 {i : Int32} (C : lX E p s m meth c b Ln kc ks xs) (d0 : decode code pc = .ok (.aload_n 1, 1)) (kk : lG E p l e s m below meth c b kc ks i (pc + 1) (.ref 0 :: st) A L) : lG E p l e s m below meth c b kc ks i pc st A L := by
  intro H locs ls hP hS hl
  exact lv_aload_n C.1 C.2.1 d0 rfl (hl.2.2 (1, .ref (mad E 0)) (by simp)) (kk H locs ls hP hS hl)
theorem l_ref2 {i : Int32} (C : lX E p s m meth c b Ln kc ks xs) (d0 : decode code pc = .ok (.aload_n 2, 1)) (kk : lG E p l e s m below meth c b kc ks i (pc + 1) (.ref 38 :: st) A L) : lG E p l e s m below meth c b kc ks i pc st A L := by
  intro H locs ls hP hS hl
  exact lv_aload_n C.1 C.2.1 d0 rfl (hl.2.2 (2, .ref (mad E 38)) (by simp)) (kk H locs ls hP hS hl)
theorem l_eqI {i v : Int32} {off : Int} (C : lX E p s m meth c b Ln kc ks xs) (d0 : decode code pc = .ok (.if_icmp .eq off, 3)) (ht : (pc : Int) + off = ((1110 : Nat) : Int)) (kk : lG E p l e s m below meth c b kc ks i 1110 st A L) : lG E p l e s m below meth c b kc ks i pc (.int v :: .int v :: st) A L := by
  intro H locs ls hP hS hl
  exact lv_icmp_eq C.1 C.2.1 d0 ht (fun _ => kk H locs ls hP hS hl) (fun z => absurd rfl z)
theorem l_eqL {i : Int32} {v : Int64} {off : Int} (C : lX E p s m meth c b Ln kc ks xs) (d : decode code pc = .ok (.lcmp, 1)) (d0 : decode code (pc + 1) = .ok (.ifCond .eq off, 3)) (ht : ((pc + 1 : Nat) : Int) + off = ((1110 : Nat) : Int)) (kk : lG E p l e s m below meth c b kc ks i 1110 st A L) : lG E p l e s m below meth c b kc ks i pc (.long v :: .long v :: st) A L := by
  intro H locs ls hP hS hl
  refine W.lcmp C.1 C.2.1 d ?_
  have z : lg_cmp v v = 0 := by
    unfold lg_cmp
    rw [if_neg (Int64.lt_irrefl), if_pos rfl]
  exact lv_if_eq C.1 C.2.1 d0 ht (fun _ => kk H locs ls hP hS hl) (fun h => absurd z h)
theorem l_run {R : Room} {args a : Array Value} {H : Heap} {locs : List Loc} {Q : State → Prop} {ls : Array Slot} {rest st0 : List Value} {Ps : mP} (hr : va_Run p l e R s m args below meth c H locs kc ks 0 0 (F0 m pc ls st0) rest (mQ E Ps a) (mfr E)) (hS : va_S (mfr E) s.heap H locs)
    (kk : ∀ (r : Option Value) (A' : mA) (L' : mJ) (H1 : Heap) (locs1 : List Loc), Ps r A' L' → va_P E.1 vwCl (mws E A' L') H1 → va_S (mfr E) s.heap H1 locs1 → W p l e R s m args below meth c H1 locs1 kc ks Q (F0 m (pc + 3) ls ((r.map (mup E)).toList ++ rest))) : W p l e R s m args below meth c H locs kc ks Q (F0 m pc ls st0) := by
  intro T hT X
  obtain ⟨v, st₀, t, T', Lc, h0, X', hL, e1, e2, ⟨⟨r, A', L', hv, hp, hP⟩, hz, hk⟩, stp⟩ := hr T hT X
  cases hv
  rw [h0] at hz hk
  obtain ⟨t2, a1, b1⟩ := kk r A' L' T'.heap (locs ++ Lc) hp (by rw [e1]; exact hP) ⟨Nat.le_trans hS.1 (by rw [e1]; exact hz), fun q h1 h2 => by rw [e1, hk q (Nat.lt_of_lt_of_le h1 hS.1) h2]; exact hS.2.1 q h1 h2, fun q hq => by
      rcases List.mem_append.mp hq with h | h
      · exact hS.2.2 q h
      · exact hL q h⟩ T' rfl X'
  exact ⟨t2, stp t2 a1, b1⟩
theorem l_good {own : String} {idx n : Nat} {M' : mM} (h : mLV own idx M' n) : GoodIn mTb (wsV own idx M'.1.cls M'.1 (mWs M')) := by
  obtain ⟨h1, h2, h3, h4, h5, -⟩ := h
  intro w hw
  have up : ∀ {w}, w ∈ mTb → w ∈ mTb ∧ ((w.onTables && w.keeps) = true ∨ ∃ ty, w = .arrayClass ty) := fun h => ⟨h, mTb_good h⟩
  rcases List.mem_append.mp hw with hw | hw
  · simp only [List.mem_cons, List.not_mem_nil, or_false] at hw
    rcases hw with rfl | rfl | rfl | rfl
    · exact up h1
    · exact up h2
    · exact up h3
    · exact up h5
  · rcases List.mem_cons.mp hw with rfl | hw
    · exact up h4
    · exact up hw
theorem l_room {maxL : Nat} (h : maxL ≤ 45) : (mRm 100).frames + 1 ≤ room_1.frames ∧ 8 + (maxL + 11) + (mRm 100).locals ≤ room_1.locals := by
  refine ⟨by decide, ?_⟩
  have e1 : (mRm 100).locals = 6400 := rfl
  have e2 : 84000 ≤ room_1.locals := by decide
  omega
theorem l_call {i : Int32} {idx k ci n : Nat} {fs as stk : List Value} {T : u_T} {N : Nat} {M' : mM} (C : lX E p s m meth c b Ln kc ks xs) (hd : decode code pc = .ok (.invokevirtual idx, 3)) (hl : mLV RL idx M' n) (hk : (mly E)[k]? = some (.inr (ci, fs))) (hc : vwCl[ci]? = some (M'.1.cls, T, N)) (hn : as.length = n) (hst : stk = as.reverse ++ .ref k :: st) (hcat : (st.map fun v => v.category).sum ≤ 8)
    (h : qC E M' 100 (.ref k :: as) A L (fun r A' L' => lG E p l e s m below meth c b kc ks i (pc + 3) (psh r st) A' L')) : lG E p l e s m below meth c b kc ks i pc stk A L := by
  intro H locs ls hP hS hlv
  obtain ⟨c1, c2, c3, c4, c5, c6, c7, c8, c9, c10, c11, c12, c13, c14⟩ := C
  subst hst
  refine l_run (E := E) (rest := st.map (mup E)) (va_runV (b := mad E k) (As := as.map (mup E)) (C := M'.1.cls) ⟨c1, c2, c3, c4, c5⟩ (h c8 l) (cwV n c5 (l_good hl) rfl rfl rfl ⟨rfl, hl.2.2.2.2.2.1⟩ (l_room hl.2.2.2.2.2.2)) ⟨q_blind, va_recv c10 hP hc (mws_get hk), q_pre hP hS c10 c11⟩ rfl (by rw [List.length_map]; exact hn) hlv.1 (by simp [mup, List.map_reverse]) (lv_room (by rw [cat_up]; exact hcat)) hd ⟨Nat.le_trans c13 (by decide), Nat.le_trans c14 (by decide)⟩) hS (fun r A' L' H1 locs1 hp hP1 hS1 => ?_)
  rw [psh_up]
  exact hp H1 locs1 ls hP1 hS1 hlv
theorem l_end {i : Int32} (C : lX E p s m meth c b Ln kc ks xs) : lG E p l e s m below meth c b kc ks i 1116 [] A L := by
  intro H locs ls hP hS hlv
  obtain ⟨c1, c2, c3, c4, c5, c6, c7, c8, c9, c10, c11, c12, c13, c14⟩ := C
  refine lv_iconst (v := 1) c1 c2 dL_law_1116 rfl ?_
  refine va_forget (fun q hq => c12 _ (hS.2.2 q hq)) ?_
  exact W.widen c13 c14 (lw_ret c1 c2 c6.1 c6.2 dL_law_1117)
theorem l_next (C : lX E p s m meth c b Ln kc ks xs) (kk : lG E p l e s m below meth c b kc ks (nI (k + 6)) 18 [] A L) : lG E p l e s m below meth c b kc ks (nI k) 1110 [] A L := by
  intro H locs ls hP hS hlv
  refine lv_iinc (k := 0) (v := nI (k + 6)) C.1 C.2.1 dL_law_1110 hlv rfl (nI_add k 6) (by decide) rfl (fun ls' hl' => ?_)
  exact lv_goto (tgt := 18) C.1 C.2.1 dL_law_1113 (by decide) (kk H locs ls' hP hS hl')
theorem lw_head (C : lX E p s m meth c b Ln kc ks xs) (hk : k ≤ 3072) (kk : k + 6 ≤ Ln → ∀ q, q < 32 → lG E p l e s m below meth c b kc ks (nI k) 33 [.int (nI q)] A L) : lG E p l e s m below meth c b kc ks (nI k) 18 [] A L := by
  intro H locs ls hP hS hl
  have C' := C
  obtain ⟨c1, c2, c3, c4, c5, c6, ⟨c7, c8, c9, c10⟩, cr⟩ := C
  refine lv_iload_n c1 c2 dL_law_18 rfl (hl.2.2 (3, .int (nI k)) (by simp)) ?_
  refine lv_aload_n c1 c2 dL_law_19 rfl (hl.2.2 (0, .ref b) (by simp)) ?_
  refine va_slen c1 c2 c7 c8 c9 hS dL_law_20 ?_
  refine lv_bipush (v := 6) c1 c2 dL_law_21 rfl ?_
  refine lv_isub c1 c2 dL_law_23 ?_
  refine lv_icmp_gt (tgt := 1116) c1 c2 dL_law_24 (by decide) (fun _ => l_end C' H locs ls hP hS hl) (fun h => ?_)
  have hk6 : k + 6 ≤ Ln := by
    exact Nat.not_lt.mp (fun g => h ((lw_sub6 c10 hk).mpr g))
  refine lv_aload_n c1 c2 dL_law_27 rfl (hl.2.2 (0, .ref b) (by simp)) ?_
  refine lv_iload_n c1 c2 dL_law_28 rfl (hl.2.2 (3, .int (nI k)) (by simp)) ?_
  refine va_sld c1 c2 c7 c8 c9 hS (vp_in_nI (show k < Ln by omega) (by omega)) dL_law_29 ?_
  refine lv_bipush (v := 31) c1 c2 dL_law_30 rfl ?_
  refine lv_iand c1 c2 dL_law_32 ?_
  obtain ⟨q, hq, e⟩ := lw_and31 (xs (nI k).toNatClampNeg)
  rw [e]
  exact kk hk6 q hq H locs ls hP hS hl
end LAWRULES
section LAWCASES
variable {E : mE} {p : Program} {l : Launch} {e : Env} {s : State} {m : MethodId} {below : List Frame} {meth : Method} {c : Code} {b Ln kc ks : Nat} {xs : Nat → Int32} {k : Nat} {A : mA} {L : mJ} {S : mA} {T n z : Nat}
theorem lo_set (C : lX E p s m meth c b Ln kc ks xs) (hk : k + 6 ≤ Ln) (hW : WfS S T n z) (hC : RC A S T n z) (hM : RM A S T) (kk : ∀ (S' : mA) (T' n' z' : Nat) (A' : mA) (L' : mJ), WfS S' T' n' z' → RC A' S' T' n' z' → RM A' S' T' → lG E p l e s m below meth c b kc ks (nI k) 1110 [] A' L') : lG E p l e s m below meth c b kc ks (nI k) 156 [] A L := by
  have c9 := C.2.2.2.2.2.2.2.2.1
  obtain ⟨r, S', T', n', z', ⟨v, rfl⟩, hW', h1, h2⟩ := op_set (E := E) (d := 97) c9 hW (xs (k + 1)) (xs (k + 2)) (xs (k + 3))
  refine l_ref1 C dL_law_156 ?_
  refine l_arg (pc := 157) (j := 1) C dL_law_157 dL_law_158 dL_law_159 dL_law_160 dL_law_161 rfl (by omega) ?_
  refine l_arg (pc := 162) (j := 2) C dL_law_162 dL_law_163 dL_law_164 dL_law_165 dL_law_166 rfl (by omega) ?_
  refine l_arg (pc := 167) (j := 3) C dL_law_167 dL_law_168 dL_law_169 dL_law_170 dL_law_171 rfl (by omega) ?_
  refine l_call (as := [.int (xs (k + 1)), .int (xs (k + 2)), .int (xs (k + 3))]) C dL_law_172 lk_L_13 (ly_0 c9.c) rfl rfl rfl (Nat.le_of_ble_eq_true rfl) ?_
  refine h1 A L _ hC (fun A1 L1 a1 b1 => ?_)
  refine l_ref2 C dL_law_175 ?_
  refine l_arg (pc := 176) (j := 1) C dL_law_176 dL_law_177 dL_law_178 dL_law_179 dL_law_180 rfl (by omega) ?_
  refine l_arg (pc := 181) (j := 2) C dL_law_181 dL_law_182 dL_law_183 dL_law_184 dL_law_185 rfl (by omega) ?_
  refine l_arg (pc := 186) (j := 3) C dL_law_186 dL_law_187 dL_law_188 dL_law_189 dL_law_190 rfl (by omega) ?_
  refine l_call (as := [.int (xs (k + 1)), .int (xs (k + 2)), .int (xs (k + 3))]) C dL_law_191 lk_L_17 (ly_38 c9) rfl rfl rfl (Nat.le_of_ble_eq_true rfl) ?_
  refine h2 A1 L1 _ (hM.high b1) (fun A2 L2 a2 b2 => ?_)
  refine l_eqI C dL_law_194 (by decide) ?_
  exact kk S' T' n' z' A2 L2 hW' (a1.low b2) a2
theorem lo_pair (C : lX E p s m meth c b Ln kc ks xs) (hk : k + 6 ≤ Ln) (hW : WfS S T n z) (hC : RC A S T n z) (hM : RM A S T) (kk : ∀ (S' : mA) (T' n' z' : Nat) (A' : mA) (L' : mJ), WfS S' T' n' z' → RC A' S' T' n' z' → RM A' S' T' → lG E p l e s m below meth c b kc ks (nI k) 1110 [] A' L') : lG E p l e s m below meth c b kc ks (nI k) 199 [] A L := by
  have c9 := C.2.2.2.2.2.2.2.2.1
  obtain ⟨r, S', T', n', z', ⟨v, rfl⟩, hW', h1, h2⟩ := op_pair' (E := E) (d := 99) c9 hW (xs (k + 1)) (xs (k + 2)) (xs (k + 3))
  refine l_ref1 C dL_law_199 ?_
  refine l_arg (pc := 200) (j := 1) C dL_law_200 dL_law_201 dL_law_202 dL_law_203 dL_law_204 rfl (by omega) ?_
  refine l_arg (pc := 205) (j := 2) C dL_law_205 dL_law_206 dL_law_207 dL_law_208 dL_law_209 rfl (by omega) ?_
  refine l_arg (pc := 210) (j := 3) C dL_law_210 dL_law_211 dL_law_212 dL_law_213 dL_law_214 rfl (by omega) ?_
  refine l_call (as := [.int (xs (k + 1)), .int (xs (k + 2)), .int (xs (k + 3))]) C dL_law_215 lk_L_18 (ly_0 c9.c) rfl rfl rfl (Nat.le_of_ble_eq_true rfl) ?_
  refine h1 A L _ hC (fun A1 L1 a1 b1 => ?_)
  refine l_ref2 C dL_law_218 ?_
  refine l_arg (pc := 219) (j := 1) C dL_law_219 dL_law_220 dL_law_221 dL_law_222 dL_law_223 rfl (by omega) ?_
  refine l_arg (pc := 224) (j := 2) C dL_law_224 dL_law_225 dL_law_226 dL_law_227 dL_law_228 rfl (by omega) ?_
  refine l_arg (pc := 229) (j := 3) C dL_law_229 dL_law_230 dL_law_231 dL_law_232 dL_law_233 rfl (by omega) ?_
  refine l_call (as := [.int (xs (k + 1)), .int (xs (k + 2)), .int (xs (k + 3))]) C dL_law_234 lk_L_21 (ly_38 c9) rfl rfl rfl (Nat.le_of_ble_eq_true rfl) ?_
  refine h2 A1 L1 _ (hM.high b1) (fun A2 L2 a2 b2 => ?_)
  refine l_eqI C dL_law_237 (by decide) ?_
  exact kk S' T' n' z' A2 L2 hW' (a1.low b2) a2
theorem lo_told (C : lX E p s m meth c b Ln kc ks xs) (hk : k + 6 ≤ Ln) (hW : WfS S T n z) (hC : RC A S T n z) (hM : RM A S T) (kk : ∀ (S' : mA) (T' n' z' : Nat) (A' : mA) (L' : mJ), WfS S' T' n' z' → RC A' S' T' n' z' → RM A' S' T' → lG E p l e s m below meth c b kc ks (nI k) 1110 [] A' L') : lG E p l e s m below meth c b kc ks (nI k) 242 [] A L := by
  have c9 := C.2.2.2.2.2.2.2.2.1
  obtain ⟨r, S', T', n', z', ⟨v, rfl⟩, hW', h1, h2⟩ := op_told (E := E) (d := 95) c9 hW (xs (k + 1)) (xs (k + 2))
  refine l_ref1 C dL_law_242 ?_
  refine l_arg (pc := 243) (j := 1) C dL_law_243 dL_law_244 dL_law_245 dL_law_246 dL_law_247 rfl (by omega) ?_
  refine l_arg (pc := 248) (j := 2) C dL_law_248 dL_law_249 dL_law_250 dL_law_251 dL_law_252 rfl (by omega) ?_
  refine l_call (as := [.int (xs (k + 1)), .int (xs (k + 2))]) C dL_law_253 lk_L_22 (ly_0 c9.c) rfl rfl rfl (Nat.le_of_ble_eq_true rfl) ?_
  refine h1 A L _ hC (fun A1 L1 a1 b1 => ?_)
  refine l_ref2 C dL_law_256 ?_
  refine l_arg (pc := 257) (j := 1) C dL_law_257 dL_law_258 dL_law_259 dL_law_260 dL_law_261 rfl (by omega) ?_
  refine l_arg (pc := 262) (j := 2) C dL_law_262 dL_law_263 dL_law_264 dL_law_265 dL_law_266 rfl (by omega) ?_
  refine l_call (as := [.int (xs (k + 1)), .int (xs (k + 2))]) C dL_law_267 lk_L_26 (ly_38 c9) rfl rfl rfl (Nat.le_of_ble_eq_true rfl) ?_
  refine h2 A1 L1 _ (hM.high b1) (fun A2 L2 a2 b2 => ?_)
  refine l_eqI C dL_law_270 (by decide) ?_
  exact kk S' T' n' z' A2 L2 hW' (a1.low b2) a2
theorem lo_feed (C : lX E p s m meth c b Ln kc ks xs) (hk : k + 6 ≤ Ln) (hW : WfS S T n z) (hC : RC A S T n z) (hM : RM A S T) (kk : ∀ (S' : mA) (T' n' z' : Nat) (A' : mA) (L' : mJ), WfS S' T' n' z' → RC A' S' T' n' z' → RM A' S' T' → lG E p l e s m below meth c b kc ks (nI k) 1110 [] A' L') : lG E p l e s m below meth c b kc ks (nI k) 275 [] A L := by
  have c9 := C.2.2.2.2.2.2.2.2.1
  obtain ⟨r, S', T', n', z', ⟨v, rfl⟩, hW', h1, h2⟩ := op_feed (E := E) (d := 98) c9 hW (xs (k + 1))
  refine l_ref1 C dL_law_275 ?_
  refine l_arg (pc := 276) (j := 1) C dL_law_276 dL_law_277 dL_law_278 dL_law_279 dL_law_280 rfl (by omega) ?_
  refine l_call (as := [.int (xs (k + 1))]) C dL_law_281 lk_L_27 (ly_0 c9.c) rfl rfl rfl (Nat.le_of_ble_eq_true rfl) ?_
  refine h1 A L _ hC (fun A1 L1 a1 b1 => ?_)
  refine l_ref2 C dL_law_284 ?_
  refine l_arg (pc := 285) (j := 1) C dL_law_285 dL_law_286 dL_law_287 dL_law_288 dL_law_289 rfl (by omega) ?_
  refine l_call (as := [.int (xs (k + 1))]) C dL_law_290 lk_L_31 (ly_38 c9) rfl rfl rfl (Nat.le_of_ble_eq_true rfl) ?_
  refine h2 A1 L1 _ (hM.high b1) (fun A2 L2 a2 b2 => ?_)
  refine l_eqI C dL_law_293 (by decide) ?_
  exact kk S' T' n' z' A2 L2 hW' (a1.low b2) a2
theorem lo_text (C : lX E p s m meth c b Ln kc ks xs) (hk : k + 6 ≤ Ln) (hW : WfS S T n z) (hC : RC A S T n z) (hM : RM A S T) (kk : ∀ (S' : mA) (T' n' z' : Nat) (A' : mA) (L' : mJ), WfS S' T' n' z' → RC A' S' T' n' z' → RM A' S' T' → lG E p l e s m below meth c b kc ks (nI k) 1110 [] A' L') : lG E p l e s m below meth c b kc ks (nI k) 298 [] A L := by
  have c9 := C.2.2.2.2.2.2.2.2.1
  obtain ⟨r, S', T', n', z', ⟨v, rfl⟩, hW', h1, h2⟩ := op_text (E := E) (d := 9) c9 hW 
  refine l_ref1 C dL_law_298 ?_
  refine l_call (as := []) C dL_law_299 lk_L_32 (ly_0 c9.c) rfl rfl rfl (Nat.le_of_ble_eq_true rfl) ?_
  refine h1 A L _ hC (fun A1 L1 a1 b1 => ?_)
  refine l_ref2 C dL_law_302 ?_
  refine l_call (as := []) C dL_law_303 lk_L_36 (ly_38 c9) rfl rfl rfl (Nat.le_of_ble_eq_true rfl) ?_
  refine h2 A1 L1 _ (hM.high b1) (fun A2 L2 a2 b2 => ?_)
  refine l_eqI C dL_law_306 (by decide) ?_
  exact kk S' T' n' z' A2 L2 hW' (a1.low b2) a2
theorem lo_force (C : lX E p s m meth c b Ln kc ks xs) (hk : k + 6 ≤ Ln) (hW : WfS S T n z) (hC : RC A S T n z) (hM : RM A S T) (kk : ∀ (S' : mA) (T' n' z' : Nat) (A' : mA) (L' : mJ), WfS S' T' n' z' → RC A' S' T' n' z' → RM A' S' T' → lG E p l e s m below meth c b kc ks (nI k) 1110 [] A' L') : lG E p l e s m below meth c b kc ks (nI k) 311 [] A L := by
  have c9 := C.2.2.2.2.2.2.2.2.1
  obtain ⟨r, S', T', n', z', ⟨v, rfl⟩, hW', h1, h2⟩ := op_force (E := E) (d := 98) c9 hW (xs (k + 1))
  refine l_ref1 C dL_law_311 ?_
  refine l_arg (pc := 312) (j := 1) C dL_law_312 dL_law_313 dL_law_314 dL_law_315 dL_law_316 rfl (by omega) ?_
  refine l_call (as := [.int (xs (k + 1))]) C dL_law_317 lk_L_37 (ly_0 c9.c) rfl rfl rfl (Nat.le_of_ble_eq_true rfl) ?_
  refine h1 A L _ hC (fun A1 L1 a1 b1 => ?_)
  refine l_ref2 C dL_law_320 ?_
  refine l_arg (pc := 321) (j := 1) C dL_law_321 dL_law_322 dL_law_323 dL_law_324 dL_law_325 rfl (by omega) ?_
  refine l_call (as := [.int (xs (k + 1))]) C dL_law_326 lk_L_40 (ly_38 c9) rfl rfl rfl (Nat.le_of_ble_eq_true rfl) ?_
  refine h2 A1 L1 _ (hM.high b1) (fun A2 L2 a2 b2 => ?_)
  refine l_eqI C dL_law_329 (by decide) ?_
  exact kk S' T' n' z' A2 L2 hW' (a1.low b2) a2
theorem lo_say (C : lX E p s m meth c b Ln kc ks xs) (hk : k + 6 ≤ Ln) (hW : WfS S T n z) (hC : RC A S T n z) (hM : RM A S T) (kk : ∀ (S' : mA) (T' n' z' : Nat) (A' : mA) (L' : mJ), WfS S' T' n' z' → RC A' S' T' n' z' → RM A' S' T' → lG E p l e s m below meth c b kc ks (nI k) 1110 [] A' L') : lG E p l e s m below meth c b kc ks (nI k) 334 [] A L := by
  have c9 := C.2.2.2.2.2.2.2.2.1
  obtain ⟨r, S', T', n', z', ⟨v, rfl⟩, hW', h1, h2⟩ := op_say (E := E) (d := 94) c9 hW (xs (k + 1)) (xs (k + 2))
  refine l_ref1 C dL_law_334 ?_
  refine l_arg (pc := 335) (j := 1) C dL_law_335 dL_law_336 dL_law_337 dL_law_338 dL_law_339 rfl (by omega) ?_
  refine l_arg (pc := 340) (j := 2) C dL_law_340 dL_law_341 dL_law_342 dL_law_343 dL_law_344 rfl (by omega) ?_
  refine l_call (as := [.int (xs (k + 1)), .int (xs (k + 2))]) C dL_law_345 lk_L_41 (ly_0 c9.c) rfl rfl rfl (Nat.le_of_ble_eq_true rfl) ?_
  refine h1 A L _ hC (fun A1 L1 a1 b1 => ?_)
  refine l_ref2 C dL_law_348 ?_
  refine l_arg (pc := 349) (j := 1) C dL_law_349 dL_law_350 dL_law_351 dL_law_352 dL_law_353 rfl (by omega) ?_
  refine l_arg (pc := 354) (j := 2) C dL_law_354 dL_law_355 dL_law_356 dL_law_357 dL_law_358 rfl (by omega) ?_
  refine l_call (as := [.int (xs (k + 1)), .int (xs (k + 2))]) C dL_law_359 lk_L_44 (ly_38 c9) rfl rfl rfl (Nat.le_of_ble_eq_true rfl) ?_
  refine h2 A1 L1 _ (hM.high b1) (fun A2 L2 a2 b2 => ?_)
  refine l_eqI C dL_law_362 (by decide) ?_
  exact kk S' T' n' z' A2 L2 hW' (a1.low b2) a2
theorem lo_quiet (C : lX E p s m meth c b Ln kc ks xs) (hk : k + 6 ≤ Ln) (hW : WfS S T n z) (hC : RC A S T n z) (hM : RM A S T) (kk : ∀ (S' : mA) (T' n' z' : Nat) (A' : mA) (L' : mJ), WfS S' T' n' z' → RC A' S' T' n' z' → RM A' S' T' → lG E p l e s m below meth c b kc ks (nI k) 1110 [] A' L') : lG E p l e s m below meth c b kc ks (nI k) 367 [] A L := by
  have c9 := C.2.2.2.2.2.2.2.2.1
  obtain ⟨r, S', T', n', z', ⟨v, rfl⟩, hW', h1, h2⟩ := op_quiet (E := E) (d := 94) c9 hW (xs (k + 1))
  refine l_ref1 C dL_law_367 ?_
  refine l_arg (pc := 368) (j := 1) C dL_law_368 dL_law_369 dL_law_370 dL_law_371 dL_law_372 rfl (by omega) ?_
  refine l_call (as := [.int (xs (k + 1))]) C dL_law_373 lk_L_45 (ly_0 c9.c) rfl rfl rfl (Nat.le_of_ble_eq_true rfl) ?_
  refine h1 A L _ hC (fun A1 L1 a1 b1 => ?_)
  refine l_ref2 C dL_law_376 ?_
  refine l_arg (pc := 377) (j := 1) C dL_law_377 dL_law_378 dL_law_379 dL_law_380 dL_law_381 rfl (by omega) ?_
  refine l_call (as := [.int (xs (k + 1))]) C dL_law_382 lk_L_48 (ly_38 c9) rfl rfl rfl (Nat.le_of_ble_eq_true rfl) ?_
  refine h2 A1 L1 _ (hM.high b1) (fun A2 L2 a2 b2 => ?_)
  refine l_eqI C dL_law_385 (by decide) ?_
  exact kk S' T' n' z' A2 L2 hW' (a1.low b2) a2
theorem lo_view (C : lX E p s m meth c b Ln kc ks xs) (hk : k + 6 ≤ Ln) (hW : WfS S T n z) (hC : RC A S T n z) (hM : RM A S T) (kk : ∀ (S' : mA) (T' n' z' : Nat) (A' : mA) (L' : mJ), WfS S' T' n' z' → RC A' S' T' n' z' → RM A' S' T' → lG E p l e s m below meth c b kc ks (nI k) 1110 [] A' L') : lG E p l e s m below meth c b kc ks (nI k) 390 [] A L := by
  have c9 := C.2.2.2.2.2.2.2.2.1
  obtain ⟨r, S', T', n', z', ⟨v, rfl⟩, hW', h1, h2⟩ := op_view (E := E) (d := 93) c9 hW (xs (k + 1))
  refine l_ref1 C dL_law_390 ?_
  refine l_arg (pc := 391) (j := 1) C dL_law_391 dL_law_392 dL_law_393 dL_law_394 dL_law_395 rfl (by omega) ?_
  refine l_call (as := [.int (xs (k + 1))]) C dL_law_396 lk_L_49 (ly_0 c9.c) rfl rfl rfl (Nat.le_of_ble_eq_true rfl) ?_
  refine h1 A L _ hC (fun A1 L1 a1 b1 => ?_)
  refine l_ref2 C dL_law_399 ?_
  refine l_arg (pc := 400) (j := 1) C dL_law_400 dL_law_401 dL_law_402 dL_law_403 dL_law_404 rfl (by omega) ?_
  refine l_call (as := [.int (xs (k + 1))]) C dL_law_405 lk_L_52 (ly_38 c9) rfl rfl rfl (Nat.le_of_ble_eq_true rfl) ?_
  refine h2 A1 L1 _ (hM.high b1) (fun A2 L2 a2 b2 => ?_)
  refine l_eqI C dL_law_408 (by decide) ?_
  exact kk S' T' n' z' A2 L2 hW' (a1.low b2) a2
theorem lo_clear (C : lX E p s m meth c b Ln kc ks xs) (hk : k + 6 ≤ Ln) (hW : WfS S T n z) (hC : RC A S T n z) (hM : RM A S T) (kk : ∀ (S' : mA) (T' n' z' : Nat) (A' : mA) (L' : mJ), WfS S' T' n' z' → RC A' S' T' n' z' → RM A' S' T' → lG E p l e s m below meth c b kc ks (nI k) 1110 [] A' L') : lG E p l e s m below meth c b kc ks (nI k) 413 [] A L := by
  have c9 := C.2.2.2.2.2.2.2.2.1
  obtain ⟨r, S', T', n', z', ⟨v, rfl⟩, hW', h1, h2⟩ := op_clear (E := E) (d := 93) c9 hW (xs (k + 1))
  refine l_ref1 C dL_law_413 ?_
  refine l_arg (pc := 414) (j := 1) C dL_law_414 dL_law_415 dL_law_416 dL_law_417 dL_law_418 rfl (by omega) ?_
  refine l_call (as := [.int (xs (k + 1))]) C dL_law_419 lk_L_53 (ly_0 c9.c) rfl rfl rfl (Nat.le_of_ble_eq_true rfl) ?_
  refine h1 A L _ hC (fun A1 L1 a1 b1 => ?_)
  refine l_ref2 C dL_law_422 ?_
  refine l_arg (pc := 423) (j := 1) C dL_law_423 dL_law_424 dL_law_425 dL_law_426 dL_law_427 rfl (by omega) ?_
  refine l_call (as := [.int (xs (k + 1))]) C dL_law_428 lk_L_57 (ly_38 c9) rfl rfl rfl (Nat.le_of_ble_eq_true rfl) ?_
  refine h2 A1 L1 _ (hM.high b1) (fun A2 L2 a2 b2 => ?_)
  refine l_eqL (pc := 431) C dL_law_431 dL_law_432 (by decide) ?_
  exact kk S' T' n' z' A2 L2 hW' (a1.low b2) a2
theorem lo_fewest (C : lX E p s m meth c b Ln kc ks xs) (hk : k + 6 ≤ Ln) (hW : WfS S T n z) (hC : RC A S T n z) (hM : RM A S T) (kk : ∀ (S' : mA) (T' n' z' : Nat) (A' : mA) (L' : mJ), WfS S' T' n' z' → RC A' S' T' n' z' → RM A' S' T' → lG E p l e s m below meth c b kc ks (nI k) 1110 [] A' L') : lG E p l e s m below meth c b kc ks (nI k) 437 [] A L := by
  have c9 := C.2.2.2.2.2.2.2.2.1
  obtain ⟨r, S', T', n', z', ⟨v, rfl⟩, hW', h1, h2⟩ := op_fewest (E := E) (d := 94) c9 hW (xs (k + 1)) (xs (k + 2)) (xs (k + 3))
  refine l_ref1 C dL_law_437 ?_
  refine l_arg (pc := 438) (j := 1) C dL_law_438 dL_law_439 dL_law_440 dL_law_441 dL_law_442 rfl (by omega) ?_
  refine l_arg (pc := 443) (j := 2) C dL_law_443 dL_law_444 dL_law_445 dL_law_446 dL_law_447 rfl (by omega) ?_
  refine l_arg (pc := 448) (j := 3) C dL_law_448 dL_law_449 dL_law_450 dL_law_451 dL_law_452 rfl (by omega) ?_
  refine l_call (as := [.int (xs (k + 1)), .int (xs (k + 2)), .int (xs (k + 3))]) C dL_law_453 lk_L_58 (ly_0 c9.c) rfl rfl rfl (Nat.le_of_ble_eq_true rfl) ?_
  refine h1 A L _ hC (fun A1 L1 a1 b1 => ?_)
  refine l_ref2 C dL_law_456 ?_
  refine l_arg (pc := 457) (j := 1) C dL_law_457 dL_law_458 dL_law_459 dL_law_460 dL_law_461 rfl (by omega) ?_
  refine l_arg (pc := 462) (j := 2) C dL_law_462 dL_law_463 dL_law_464 dL_law_465 dL_law_466 rfl (by omega) ?_
  refine l_arg (pc := 467) (j := 3) C dL_law_467 dL_law_468 dL_law_469 dL_law_470 dL_law_471 rfl (by omega) ?_
  refine l_call (as := [.int (xs (k + 1)), .int (xs (k + 2)), .int (xs (k + 3))]) C dL_law_472 lk_L_61 (ly_38 c9) rfl rfl rfl (Nat.le_of_ble_eq_true rfl) ?_
  refine h2 A1 L1 _ (hM.high b1) (fun A2 L2 a2 b2 => ?_)
  refine l_eqI C dL_law_475 (by decide) ?_
  exact kk S' T' n' z' A2 L2 hW' (a1.low b2) a2
theorem lo_words (C : lX E p s m meth c b Ln kc ks xs) (hk : k + 6 ≤ Ln) (hW : WfS S T n z) (hC : RC A S T n z) (hM : RM A S T) (kk : ∀ (S' : mA) (T' n' z' : Nat) (A' : mA) (L' : mJ), WfS S' T' n' z' → RC A' S' T' n' z' → RM A' S' T' → lG E p l e s m below meth c b kc ks (nI k) 1110 [] A' L') : lG E p l e s m below meth c b kc ks (nI k) 480 [] A L := by
  have c9 := C.2.2.2.2.2.2.2.2.1
  obtain ⟨r, S', T', n', z', ⟨v, rfl⟩, hW', h1, h2⟩ := op_words (E := E) (d := 94) c9 hW (xs (k + 1)) (xs (k + 2))
  refine l_ref1 C dL_law_480 ?_
  refine l_arg (pc := 481) (j := 1) C dL_law_481 dL_law_482 dL_law_483 dL_law_484 dL_law_485 rfl (by omega) ?_
  refine l_arg (pc := 486) (j := 2) C dL_law_486 dL_law_487 dL_law_488 dL_law_489 dL_law_490 rfl (by omega) ?_
  refine l_call (as := [.int (xs (k + 1)), .int (xs (k + 2))]) C dL_law_491 lk_L_62 (ly_0 c9.c) rfl rfl rfl (Nat.le_of_ble_eq_true rfl) ?_
  refine h1 A L _ hC (fun A1 L1 a1 b1 => ?_)
  refine l_ref2 C dL_law_494 ?_
  refine l_arg (pc := 495) (j := 1) C dL_law_495 dL_law_496 dL_law_497 dL_law_498 dL_law_499 rfl (by omega) ?_
  refine l_arg (pc := 500) (j := 2) C dL_law_500 dL_law_501 dL_law_502 dL_law_503 dL_law_504 rfl (by omega) ?_
  refine l_call (as := [.int (xs (k + 1)), .int (xs (k + 2))]) C dL_law_505 lk_L_65 (ly_38 c9) rfl rfl rfl (Nat.le_of_ble_eq_true rfl) ?_
  refine h2 A1 L1 _ (hM.high b1) (fun A2 L2 a2 b2 => ?_)
  refine l_eqI C dL_law_508 (by decide) ?_
  exact kk S' T' n' z' A2 L2 hW' (a1.low b2) a2
theorem lo_stays (C : lX E p s m meth c b Ln kc ks xs) (hk : k + 6 ≤ Ln) (hW : WfS S T n z) (hC : RC A S T n z) (hM : RM A S T) (kk : ∀ (S' : mA) (T' n' z' : Nat) (A' : mA) (L' : mJ), WfS S' T' n' z' → RC A' S' T' n' z' → RM A' S' T' → lG E p l e s m below meth c b kc ks (nI k) 1110 [] A' L') : lG E p l e s m below meth c b kc ks (nI k) 513 [] A L := by
  have c9 := C.2.2.2.2.2.2.2.2.1
  obtain ⟨r, S', T', n', z', ⟨v, rfl⟩, hW', h1, h2⟩ := op_stays (E := E) (d := 95) c9 hW (xs (k + 1)) (xs (k + 2))
  refine l_ref1 C dL_law_513 ?_
  refine l_arg (pc := 514) (j := 1) C dL_law_514 dL_law_515 dL_law_516 dL_law_517 dL_law_518 rfl (by omega) ?_
  refine l_arg (pc := 519) (j := 2) C dL_law_519 dL_law_520 dL_law_521 dL_law_522 dL_law_523 rfl (by omega) ?_
  refine l_call (as := [.int (xs (k + 1)), .int (xs (k + 2))]) C dL_law_524 lk_L_66 (ly_0 c9.c) rfl rfl rfl (Nat.le_of_ble_eq_true rfl) ?_
  refine h1 A L _ hC (fun A1 L1 a1 b1 => ?_)
  refine l_ref2 C dL_law_527 ?_
  refine l_arg (pc := 528) (j := 1) C dL_law_528 dL_law_529 dL_law_530 dL_law_531 dL_law_532 rfl (by omega) ?_
  refine l_arg (pc := 533) (j := 2) C dL_law_533 dL_law_534 dL_law_535 dL_law_536 dL_law_537 rfl (by omega) ?_
  refine l_call (as := [.int (xs (k + 1)), .int (xs (k + 2))]) C dL_law_538 lk_L_69 (ly_38 c9) rfl rfl rfl (Nat.le_of_ble_eq_true rfl) ?_
  refine h2 A1 L1 _ (hM.high b1) (fun A2 L2 a2 b2 => ?_)
  refine l_eqI C dL_law_541 (by decide) ?_
  exact kk S' T' n' z' A2 L2 hW' (a1.low b2) a2
theorem lo_rows (C : lX E p s m meth c b Ln kc ks xs) (hk : k + 6 ≤ Ln) (hW : WfS S T n z) (hC : RC A S T n z) (hM : RM A S T) (kk : ∀ (S' : mA) (T' n' z' : Nat) (A' : mA) (L' : mJ), WfS S' T' n' z' → RC A' S' T' n' z' → RM A' S' T' → lG E p l e s m below meth c b kc ks (nI k) 1110 [] A' L') : lG E p l e s m below meth c b kc ks (nI k) 546 [] A L := by
  have c9 := C.2.2.2.2.2.2.2.2.1
  obtain ⟨r, S', T', n', z', ⟨v, rfl⟩, hW', h1, h2⟩ := op_rows (E := E) (d := 94) c9 hW (xs (k + 1)) (xs (k + 2)) (xs (k + 3)) (xs (k + 4))
  refine l_ref1 C dL_law_546 ?_
  refine l_arg (pc := 547) (j := 1) C dL_law_547 dL_law_548 dL_law_549 dL_law_550 dL_law_551 rfl (by omega) ?_
  refine l_arg (pc := 552) (j := 2) C dL_law_552 dL_law_553 dL_law_554 dL_law_555 dL_law_556 rfl (by omega) ?_
  refine l_arg (pc := 557) (j := 3) C dL_law_557 dL_law_558 dL_law_559 dL_law_560 dL_law_561 rfl (by omega) ?_
  refine l_arg (pc := 562) (j := 4) C dL_law_562 dL_law_563 dL_law_564 dL_law_565 dL_law_566 rfl (by omega) ?_
  refine l_call (as := [.int (xs (k + 1)), .int (xs (k + 2)), .int (xs (k + 3)), .int (xs (k + 4))]) C dL_law_567 lk_L_70 (ly_0 c9.c) rfl rfl rfl (Nat.le_of_ble_eq_true rfl) ?_
  refine h1 A L _ hC (fun A1 L1 a1 b1 => ?_)
  refine l_ref2 C dL_law_570 ?_
  refine l_arg (pc := 571) (j := 1) C dL_law_571 dL_law_572 dL_law_573 dL_law_574 dL_law_575 rfl (by omega) ?_
  refine l_arg (pc := 576) (j := 2) C dL_law_576 dL_law_577 dL_law_578 dL_law_579 dL_law_580 rfl (by omega) ?_
  refine l_arg (pc := 581) (j := 3) C dL_law_581 dL_law_582 dL_law_583 dL_law_584 dL_law_585 rfl (by omega) ?_
  refine l_arg (pc := 586) (j := 4) C dL_law_586 dL_law_587 dL_law_588 dL_law_589 dL_law_590 rfl (by omega) ?_
  refine l_call (as := [.int (xs (k + 1)), .int (xs (k + 2)), .int (xs (k + 3)), .int (xs (k + 4))]) C dL_law_591 lk_L_74 (ly_38 c9) rfl rfl rfl (Nat.le_of_ble_eq_true rfl) ?_
  refine h2 A1 L1 _ (hM.high b1) (fun A2 L2 a2 b2 => ?_)
  refine l_eqL (pc := 594) C dL_law_594 dL_law_595 (by decide) ?_
  exact kk S' T' n' z' A2 L2 hW' (a1.low b2) a2
theorem lo_whom (C : lX E p s m meth c b Ln kc ks xs) (hk : k + 6 ≤ Ln) (hW : WfS S T n z) (hC : RC A S T n z) (hM : RM A S T) (kk : ∀ (S' : mA) (T' n' z' : Nat) (A' : mA) (L' : mJ), WfS S' T' n' z' → RC A' S' T' n' z' → RM A' S' T' → lG E p l e s m below meth c b kc ks (nI k) 1110 [] A' L') : lG E p l e s m below meth c b kc ks (nI k) 600 [] A L := by
  have c9 := C.2.2.2.2.2.2.2.2.1
  obtain ⟨r, S', T', n', z', ⟨v, rfl⟩, hW', h1, h2⟩ := op_whom (E := E) (d := 93) c9 hW (xs (k + 1)) (xs (k + 2))
  refine l_ref1 C dL_law_600 ?_
  refine l_arg (pc := 601) (j := 1) C dL_law_601 dL_law_602 dL_law_603 dL_law_604 dL_law_605 rfl (by omega) ?_
  refine l_arg (pc := 606) (j := 2) C dL_law_606 dL_law_607 dL_law_608 dL_law_609 dL_law_610 rfl (by omega) ?_
  refine l_call (as := [.int (xs (k + 1)), .int (xs (k + 2))]) C dL_law_611 lk_L_75 (ly_0 c9.c) rfl rfl rfl (Nat.le_of_ble_eq_true rfl) ?_
  refine h1 A L _ hC (fun A1 L1 a1 b1 => ?_)
  refine l_ref2 C dL_law_614 ?_
  refine l_arg (pc := 615) (j := 1) C dL_law_615 dL_law_616 dL_law_617 dL_law_618 dL_law_619 rfl (by omega) ?_
  refine l_arg (pc := 620) (j := 2) C dL_law_620 dL_law_621 dL_law_622 dL_law_623 dL_law_624 rfl (by omega) ?_
  refine l_call (as := [.int (xs (k + 1)), .int (xs (k + 2))]) C dL_law_625 lk_L_78 (ly_38 c9) rfl rfl rfl (Nat.le_of_ble_eq_true rfl) ?_
  refine h2 A1 L1 _ (hM.high b1) (fun A2 L2 a2 b2 => ?_)
  refine l_eqI C dL_law_628 (by decide) ?_
  exact kk S' T' n' z' A2 L2 hW' (a1.low b2) a2
theorem lo_tells (C : lX E p s m meth c b Ln kc ks xs) (hk : k + 6 ≤ Ln) (hW : WfS S T n z) (hC : RC A S T n z) (hM : RM A S T) (kk : ∀ (S' : mA) (T' n' z' : Nat) (A' : mA) (L' : mJ), WfS S' T' n' z' → RC A' S' T' n' z' → RM A' S' T' → lG E p l e s m below meth c b kc ks (nI k) 1110 [] A' L') : lG E p l e s m below meth c b kc ks (nI k) 633 [] A L := by
  have c9 := C.2.2.2.2.2.2.2.2.1
  obtain ⟨r, S', T', n', z', ⟨v, rfl⟩, hW', h1, h2⟩ := op_tells (E := E) (d := 92) c9 hW (xs (k + 1)) (xs (k + 2)) (xs (k + 3))
  refine l_ref1 C dL_law_633 ?_
  refine l_arg (pc := 634) (j := 1) C dL_law_634 dL_law_635 dL_law_636 dL_law_637 dL_law_638 rfl (by omega) ?_
  refine l_arg (pc := 639) (j := 2) C dL_law_639 dL_law_640 dL_law_641 dL_law_642 dL_law_643 rfl (by omega) ?_
  refine l_arg (pc := 644) (j := 3) C dL_law_644 dL_law_645 dL_law_646 dL_law_647 dL_law_648 rfl (by omega) ?_
  refine l_call (as := [.int (xs (k + 1)), .int (xs (k + 2)), .int (xs (k + 3))]) C dL_law_649 lk_L_79 (ly_0 c9.c) rfl rfl rfl (Nat.le_of_ble_eq_true rfl) ?_
  refine h1 A L _ hC (fun A1 L1 a1 b1 => ?_)
  refine l_ref2 C dL_law_652 ?_
  refine l_arg (pc := 653) (j := 1) C dL_law_653 dL_law_654 dL_law_655 dL_law_656 dL_law_657 rfl (by omega) ?_
  refine l_arg (pc := 658) (j := 2) C dL_law_658 dL_law_659 dL_law_660 dL_law_661 dL_law_662 rfl (by omega) ?_
  refine l_arg (pc := 663) (j := 3) C dL_law_663 dL_law_664 dL_law_665 dL_law_666 dL_law_667 rfl (by omega) ?_
  refine l_call (as := [.int (xs (k + 1)), .int (xs (k + 2)), .int (xs (k + 3))]) C dL_law_668 lk_L_82 (ly_38 c9) rfl rfl rfl (Nat.le_of_ble_eq_true rfl) ?_
  refine h2 A1 L1 _ (hM.high b1) (fun A2 L2 a2 b2 => ?_)
  refine l_eqI C dL_law_671 (by decide) ?_
  exact kk S' T' n' z' A2 L2 hW' (a1.low b2) a2
theorem lo_film (C : lX E p s m meth c b Ln kc ks xs) (hk : k + 6 ≤ Ln) (hW : WfS S T n z) (hC : RC A S T n z) (hM : RM A S T) (kk : ∀ (S' : mA) (T' n' z' : Nat) (A' : mA) (L' : mJ), WfS S' T' n' z' → RC A' S' T' n' z' → RM A' S' T' → lG E p l e s m below meth c b kc ks (nI k) 1110 [] A' L') : lG E p l e s m below meth c b kc ks (nI k) 676 [] A L := by
  have c9 := C.2.2.2.2.2.2.2.2.1
  obtain ⟨r, S', T', n', z', ⟨v, rfl⟩, hW', h1, h2⟩ := op_film (E := E) (d := 95) c9 hW (xs (k + 1)) (xs (k + 2)) (xs (k + 3))
  refine l_ref1 C dL_law_676 ?_
  refine l_arg (pc := 677) (j := 1) C dL_law_677 dL_law_678 dL_law_679 dL_law_680 dL_law_681 rfl (by omega) ?_
  refine l_arg (pc := 682) (j := 2) C dL_law_682 dL_law_683 dL_law_684 dL_law_685 dL_law_686 rfl (by omega) ?_
  refine l_arg (pc := 687) (j := 3) C dL_law_687 dL_law_688 dL_law_689 dL_law_690 dL_law_691 rfl (by omega) ?_
  refine l_call (as := [.int (xs (k + 1)), .int (xs (k + 2)), .int (xs (k + 3))]) C dL_law_692 lk_L_83 (ly_0 c9.c) rfl rfl rfl (Nat.le_of_ble_eq_true rfl) ?_
  refine h1 A L _ hC (fun A1 L1 a1 b1 => ?_)
  refine l_ref2 C dL_law_695 ?_
  refine l_arg (pc := 696) (j := 1) C dL_law_696 dL_law_697 dL_law_698 dL_law_699 dL_law_700 rfl (by omega) ?_
  refine l_arg (pc := 701) (j := 2) C dL_law_701 dL_law_702 dL_law_703 dL_law_704 dL_law_705 rfl (by omega) ?_
  refine l_arg (pc := 706) (j := 3) C dL_law_706 dL_law_707 dL_law_708 dL_law_709 dL_law_710 rfl (by omega) ?_
  refine l_call (as := [.int (xs (k + 1)), .int (xs (k + 2)), .int (xs (k + 3))]) C dL_law_711 lk_L_86 (ly_38 c9) rfl rfl rfl (Nat.le_of_ble_eq_true rfl) ?_
  refine h2 A1 L1 _ (hM.high b1) (fun A2 L2 a2 b2 => ?_)
  refine l_eqI C dL_law_714 (by decide) ?_
  exact kk S' T' n' z' A2 L2 hW' (a1.low b2) a2
theorem lo_drawn (C : lX E p s m meth c b Ln kc ks xs) (hk : k + 6 ≤ Ln) (hW : WfS S T n z) (hC : RC A S T n z) (hM : RM A S T) (kk : ∀ (S' : mA) (T' n' z' : Nat) (A' : mA) (L' : mJ), WfS S' T' n' z' → RC A' S' T' n' z' → RM A' S' T' → lG E p l e s m below meth c b kc ks (nI k) 1110 [] A' L') : lG E p l e s m below meth c b kc ks (nI k) 719 [] A L := by
  have c9 := C.2.2.2.2.2.2.2.2.1
  obtain ⟨r, S', T', n', z', ⟨v, rfl⟩, hW', h1, h2⟩ := op_drawn (E := E) (d := 93) c9 hW (xs (k + 1)) (xs (k + 2)) (xs (k + 3))
  refine l_ref1 C dL_law_719 ?_
  refine l_arg (pc := 720) (j := 1) C dL_law_720 dL_law_721 dL_law_722 dL_law_723 dL_law_724 rfl (by omega) ?_
  refine l_arg (pc := 725) (j := 2) C dL_law_725 dL_law_726 dL_law_727 dL_law_728 dL_law_729 rfl (by omega) ?_
  refine l_arg (pc := 730) (j := 3) C dL_law_730 dL_law_731 dL_law_732 dL_law_733 dL_law_734 rfl (by omega) ?_
  refine l_call (as := [.int (xs (k + 1)), .int (xs (k + 2)), .int (xs (k + 3))]) C dL_law_735 lk_L_87 (ly_0 c9.c) rfl rfl rfl (Nat.le_of_ble_eq_true rfl) ?_
  refine h1 A L _ hC (fun A1 L1 a1 b1 => ?_)
  refine l_ref2 C dL_law_738 ?_
  refine l_arg (pc := 739) (j := 1) C dL_law_739 dL_law_740 dL_law_741 dL_law_742 dL_law_743 rfl (by omega) ?_
  refine l_arg (pc := 744) (j := 2) C dL_law_744 dL_law_745 dL_law_746 dL_law_747 dL_law_748 rfl (by omega) ?_
  refine l_arg (pc := 749) (j := 3) C dL_law_749 dL_law_750 dL_law_751 dL_law_752 dL_law_753 rfl (by omega) ?_
  refine l_call (as := [.int (xs (k + 1)), .int (xs (k + 2)), .int (xs (k + 3))]) C dL_law_754 lk_L_90 (ly_38 c9) rfl rfl rfl (Nat.le_of_ble_eq_true rfl) ?_
  refine h2 A1 L1 _ (hM.high b1) (fun A2 L2 a2 b2 => ?_)
  refine l_eqI C dL_law_757 (by decide) ?_
  exact kk S' T' n' z' A2 L2 hW' (a1.low b2) a2
theorem lo_chance (C : lX E p s m meth c b Ln kc ks xs) (hk : k + 6 ≤ Ln) (hW : WfS S T n z) (hC : RC A S T n z) (hM : RM A S T) (kk : ∀ (S' : mA) (T' n' z' : Nat) (A' : mA) (L' : mJ), WfS S' T' n' z' → RC A' S' T' n' z' → RM A' S' T' → lG E p l e s m below meth c b kc ks (nI k) 1110 [] A' L') : lG E p l e s m below meth c b kc ks (nI k) 762 [] A L := by
  have c9 := C.2.2.2.2.2.2.2.2.1
  obtain ⟨r, S', T', n', z', ⟨v, rfl⟩, hW', h1, h2⟩ := op_chance (E := E) (d := 92) c9 hW (xs (k + 1)) (xs (k + 2)) (xs (k + 3)) (xs (k + 4)) (xs (k + 5))
  refine l_ref1 C dL_law_762 ?_
  refine l_arg (pc := 763) (j := 1) C dL_law_763 dL_law_764 dL_law_765 dL_law_766 dL_law_767 rfl (by omega) ?_
  refine l_arg (pc := 768) (j := 2) C dL_law_768 dL_law_769 dL_law_770 dL_law_771 dL_law_772 rfl (by omega) ?_
  refine l_arg (pc := 773) (j := 3) C dL_law_773 dL_law_774 dL_law_775 dL_law_776 dL_law_777 rfl (by omega) ?_
  refine l_arg (pc := 778) (j := 4) C dL_law_778 dL_law_779 dL_law_780 dL_law_781 dL_law_782 rfl (by omega) ?_
  refine l_arg (pc := 783) (j := 5) C dL_law_783 dL_law_784 dL_law_785 dL_law_786 dL_law_787 rfl (by omega) ?_
  refine l_call (as := [.int (xs (k + 1)), .int (xs (k + 2)), .int (xs (k + 3)), .int (xs (k + 4)), .int (xs (k + 5))]) C dL_law_788 lk_L_91 (ly_0 c9.c) rfl rfl rfl (Nat.le_of_ble_eq_true rfl) ?_
  refine h1 A L _ hC (fun A1 L1 a1 b1 => ?_)
  refine l_ref2 C dL_law_791 ?_
  refine l_arg (pc := 792) (j := 1) C dL_law_792 dL_law_793 dL_law_794 dL_law_795 dL_law_796 rfl (by omega) ?_
  refine l_arg (pc := 797) (j := 2) C dL_law_797 dL_law_798 dL_law_799 dL_law_800 dL_law_801 rfl (by omega) ?_
  refine l_arg (pc := 802) (j := 3) C dL_law_802 dL_law_803 dL_law_804 dL_law_805 dL_law_806 rfl (by omega) ?_
  refine l_arg (pc := 807) (j := 4) C dL_law_807 dL_law_808 dL_law_809 dL_law_810 dL_law_811 rfl (by omega) ?_
  refine l_arg (pc := 812) (j := 5) C dL_law_812 dL_law_813 dL_law_814 dL_law_815 dL_law_816 rfl (by omega) ?_
  refine l_call (as := [.int (xs (k + 1)), .int (xs (k + 2)), .int (xs (k + 3)), .int (xs (k + 4)), .int (xs (k + 5))]) C dL_law_817 lk_L_95 (ly_38 c9) rfl rfl rfl (Nat.le_of_ble_eq_true rfl) ?_
  refine h2 A1 L1 _ (hM.high b1) (fun A2 L2 a2 b2 => ?_)
  refine l_eqL (pc := 820) C dL_law_820 dL_law_821 (by decide) ?_
  exact kk S' T' n' z' A2 L2 hW' (a1.low b2) a2
theorem lo_image (C : lX E p s m meth c b Ln kc ks xs) (hk : k + 6 ≤ Ln) (hW : WfS S T n z) (hC : RC A S T n z) (hM : RM A S T) (kk : ∀ (S' : mA) (T' n' z' : Nat) (A' : mA) (L' : mJ), WfS S' T' n' z' → RC A' S' T' n' z' → RM A' S' T' → lG E p l e s m below meth c b kc ks (nI k) 1110 [] A' L') : lG E p l e s m below meth c b kc ks (nI k) 826 [] A L := by
  have c9 := C.2.2.2.2.2.2.2.2.1
  obtain ⟨r, S', T', n', z', ⟨v, rfl⟩, hW', h1, h2⟩ := op_image (E := E) (d := 98) c9 hW 
  refine l_ref1 C dL_law_826 ?_
  refine l_call (as := []) C dL_law_827 lk_L_96 (ly_0 c9.c) rfl rfl rfl (Nat.le_of_ble_eq_true rfl) ?_
  refine h1 A L _ hC (fun A1 L1 a1 b1 => ?_)
  refine l_ref2 C dL_law_830 ?_
  refine l_call (as := []) C dL_law_831 lk_L_99 (ly_38 c9) rfl rfl rfl (Nat.le_of_ble_eq_true rfl) ?_
  refine h2 A1 L1 _ (hM.high b1) (fun A2 L2 a2 b2 => ?_)
  refine l_eqI C dL_law_834 (by decide) ?_
  exact kk S' T' n' z' A2 L2 hW' (a1.low b2) a2
theorem lo_back (C : lX E p s m meth c b Ln kc ks xs) (hk : k + 6 ≤ Ln) (hW : WfS S T n z) (hC : RC A S T n z) (hM : RM A S T) (kk : ∀ (S' : mA) (T' n' z' : Nat) (A' : mA) (L' : mJ), WfS S' T' n' z' → RC A' S' T' n' z' → RM A' S' T' → lG E p l e s m below meth c b kc ks (nI k) 1110 [] A' L') : lG E p l e s m below meth c b kc ks (nI k) 839 [] A L := by
  have c9 := C.2.2.2.2.2.2.2.2.1
  obtain ⟨r, S', T', n', z', ⟨v, rfl⟩, hW', h1, h2⟩ := op_back (E := E) (d := 98) c9 hW 
  refine l_ref1 C dL_law_839 ?_
  refine l_call (as := []) C dL_law_840 lk_L_100 (ly_0 c9.c) rfl rfl rfl (Nat.le_of_ble_eq_true rfl) ?_
  refine h1 A L _ hC (fun A1 L1 a1 b1 => ?_)
  refine l_ref2 C dL_law_843 ?_
  refine l_call (as := []) C dL_law_844 lk_L_103 (ly_38 c9) rfl rfl rfl (Nat.le_of_ble_eq_true rfl) ?_
  refine h2 A1 L1 _ (hM.high b1) (fun A2 L2 a2 b2 => ?_)
  refine l_eqI C dL_law_847 (by decide) ?_
  exact kk S' T' n' z' A2 L2 hW' (a1.low b2) a2
theorem lo_count (C : lX E p s m meth c b Ln kc ks xs) (hk : k + 6 ≤ Ln) (hW : WfS S T n z) (hC : RC A S T n z) (hM : RM A S T) (kk : ∀ (S' : mA) (T' n' z' : Nat) (A' : mA) (L' : mJ), WfS S' T' n' z' → RC A' S' T' n' z' → RM A' S' T' → lG E p l e s m below meth c b kc ks (nI k) 1110 [] A' L') : lG E p l e s m below meth c b kc ks (nI k) 852 [] A L := by
  have c9 := C.2.2.2.2.2.2.2.2.1
  obtain ⟨r, S', T', n', z', ⟨v, rfl⟩, hW', h1, h2⟩ := op_count (E := E) (d := 99) c9 hW (xs (k + 1))
  refine l_ref1 C dL_law_852 ?_
  refine l_arg (pc := 853) (j := 1) C dL_law_853 dL_law_854 dL_law_855 dL_law_856 dL_law_857 rfl (by omega) ?_
  refine l_call (as := [.int (xs (k + 1))]) C dL_law_858 lk_L_104 (ly_0 c9.c) rfl rfl rfl (Nat.le_of_ble_eq_true rfl) ?_
  refine h1 A L _ hC (fun A1 L1 a1 b1 => ?_)
  refine l_ref2 C dL_law_861 ?_
  refine l_arg (pc := 862) (j := 1) C dL_law_862 dL_law_863 dL_law_864 dL_law_865 dL_law_866 rfl (by omega) ?_
  refine l_call (as := [.int (xs (k + 1))]) C dL_law_867 lk_L_107 (ly_38 c9) rfl rfl rfl (Nat.le_of_ble_eq_true rfl) ?_
  refine h2 A1 L1 _ (hM.high b1) (fun A2 L2 a2 b2 => ?_)
  refine l_eqI C dL_law_870 (by decide) ?_
  exact kk S' T' n' z' A2 L2 hW' (a1.low b2) a2
theorem lo_sheet (C : lX E p s m meth c b Ln kc ks xs) (hk : k + 6 ≤ Ln) (hW : WfS S T n z) (hC : RC A S T n z) (hM : RM A S T) (kk : ∀ (S' : mA) (T' n' z' : Nat) (A' : mA) (L' : mJ), WfS S' T' n' z' → RC A' S' T' n' z' → RM A' S' T' → lG E p l e s m below meth c b kc ks (nI k) 1110 [] A' L') : lG E p l e s m below meth c b kc ks (nI k) 875 [] A L := by
  have c9 := C.2.2.2.2.2.2.2.2.1
  obtain ⟨r, S', T', n', z', ⟨v, rfl⟩, hW', h1, h2⟩ := op_sheet (E := E) (d := 97) c9 hW (xs (k + 1)) (xs (k + 2)) (xs (k + 3))
  refine l_ref1 C dL_law_875 ?_
  refine l_arg (pc := 876) (j := 1) C dL_law_876 dL_law_877 dL_law_878 dL_law_879 dL_law_880 rfl (by omega) ?_
  refine l_arg (pc := 881) (j := 2) C dL_law_881 dL_law_882 dL_law_883 dL_law_884 dL_law_885 rfl (by omega) ?_
  refine l_arg (pc := 886) (j := 3) C dL_law_886 dL_law_887 dL_law_888 dL_law_889 dL_law_890 rfl (by omega) ?_
  refine l_call (as := [.int (xs (k + 1)), .int (xs (k + 2)), .int (xs (k + 3))]) C dL_law_891 lk_L_108 (ly_0 c9.c) rfl rfl rfl (Nat.le_of_ble_eq_true rfl) ?_
  refine h1 A L _ hC (fun A1 L1 a1 b1 => ?_)
  refine l_ref2 C dL_law_894 ?_
  refine l_arg (pc := 895) (j := 1) C dL_law_895 dL_law_896 dL_law_897 dL_law_898 dL_law_899 rfl (by omega) ?_
  refine l_arg (pc := 900) (j := 2) C dL_law_900 dL_law_901 dL_law_902 dL_law_903 dL_law_904 rfl (by omega) ?_
  refine l_arg (pc := 905) (j := 3) C dL_law_905 dL_law_906 dL_law_907 dL_law_908 dL_law_909 rfl (by omega) ?_
  refine l_call (as := [.int (xs (k + 1)), .int (xs (k + 2)), .int (xs (k + 3))]) C dL_law_910 lk_L_111 (ly_38 c9) rfl rfl rfl (Nat.le_of_ble_eq_true rfl) ?_
  refine h2 A1 L1 _ (hM.high b1) (fun A2 L2 a2 b2 => ?_)
  refine l_eqI C dL_law_913 (by decide) ?_
  exact kk S' T' n' z' A2 L2 hW' (a1.low b2) a2
theorem lo_cell (C : lX E p s m meth c b Ln kc ks xs) (hk : k + 6 ≤ Ln) (hW : WfS S T n z) (hC : RC A S T n z) (hM : RM A S T) (kk : ∀ (S' : mA) (T' n' z' : Nat) (A' : mA) (L' : mJ), WfS S' T' n' z' → RC A' S' T' n' z' → RM A' S' T' → lG E p l e s m below meth c b kc ks (nI k) 1110 [] A' L') : lG E p l e s m below meth c b kc ks (nI k) 918 [] A L := by
  have c9 := C.2.2.2.2.2.2.2.2.1
  obtain ⟨r, S', T', n', z', ⟨v, rfl⟩, hW', h1, h2⟩ := op_cell (E := E) (d := 97) c9 hW (xs (k + 1)) (xs (k + 2)) (xs (k + 3))
  refine l_ref1 C dL_law_918 ?_
  refine l_arg (pc := 919) (j := 1) C dL_law_919 dL_law_920 dL_law_921 dL_law_922 dL_law_923 rfl (by omega) ?_
  refine l_arg (pc := 924) (j := 2) C dL_law_924 dL_law_925 dL_law_926 dL_law_927 dL_law_928 rfl (by omega) ?_
  refine l_arg (pc := 929) (j := 3) C dL_law_929 dL_law_930 dL_law_931 dL_law_932 dL_law_933 rfl (by omega) ?_
  refine l_call (as := [.int (xs (k + 1)), .int (xs (k + 2)), .int (xs (k + 3))]) C dL_law_934 lk_L_112 (ly_0 c9.c) rfl rfl rfl (Nat.le_of_ble_eq_true rfl) ?_
  refine h1 A L _ hC (fun A1 L1 a1 b1 => ?_)
  refine l_ref2 C dL_law_937 ?_
  refine l_arg (pc := 938) (j := 1) C dL_law_938 dL_law_939 dL_law_940 dL_law_941 dL_law_942 rfl (by omega) ?_
  refine l_arg (pc := 943) (j := 2) C dL_law_943 dL_law_944 dL_law_945 dL_law_946 dL_law_947 rfl (by omega) ?_
  refine l_arg (pc := 948) (j := 3) C dL_law_948 dL_law_949 dL_law_950 dL_law_951 dL_law_952 rfl (by omega) ?_
  refine l_call (as := [.int (xs (k + 1)), .int (xs (k + 2)), .int (xs (k + 3))]) C dL_law_953 lk_L_115 (ly_38 c9) rfl rfl rfl (Nat.le_of_ble_eq_true rfl) ?_
  refine h2 A1 L1 _ (hM.high b1) (fun A2 L2 a2 b2 => ?_)
  refine l_eqI C dL_law_956 (by decide) ?_
  exact kk S' T' n' z' A2 L2 hW' (a1.low b2) a2
theorem lo_copy (C : lX E p s m meth c b Ln kc ks xs) (hk : k + 6 ≤ Ln) (hW : WfS S T n z) (hC : RC A S T n z) (hM : RM A S T) (kk : ∀ (S' : mA) (T' n' z' : Nat) (A' : mA) (L' : mJ), WfS S' T' n' z' → RC A' S' T' n' z' → RM A' S' T' → lG E p l e s m below meth c b kc ks (nI k) 1110 [] A' L') : lG E p l e s m below meth c b kc ks (nI k) 961 [] A L := by
  have c9 := C.2.2.2.2.2.2.2.2.1
  obtain ⟨r, S', T', n', z', ⟨v, rfl⟩, hW', h1, h2⟩ := op_copy (E := E) (d := 97) c9 hW (xs (k + 1)) (xs (k + 2)) (xs (k + 3)) (xs (k + 4)) (xs (k + 5))
  refine l_ref1 C dL_law_961 ?_
  refine l_arg (pc := 962) (j := 1) C dL_law_962 dL_law_963 dL_law_964 dL_law_965 dL_law_966 rfl (by omega) ?_
  refine l_arg (pc := 967) (j := 2) C dL_law_967 dL_law_968 dL_law_969 dL_law_970 dL_law_971 rfl (by omega) ?_
  refine l_arg (pc := 972) (j := 3) C dL_law_972 dL_law_973 dL_law_974 dL_law_975 dL_law_976 rfl (by omega) ?_
  refine l_arg (pc := 977) (j := 4) C dL_law_977 dL_law_978 dL_law_979 dL_law_980 dL_law_981 rfl (by omega) ?_
  refine l_arg (pc := 982) (j := 5) C dL_law_982 dL_law_983 dL_law_984 dL_law_985 dL_law_986 rfl (by omega) ?_
  refine l_call (as := [.int (xs (k + 1)), .int (xs (k + 2)), .int (xs (k + 3)), .int (xs (k + 4)), .int (xs (k + 5))]) C dL_law_987 lk_L_116 (ly_0 c9.c) rfl rfl rfl (Nat.le_of_ble_eq_true rfl) ?_
  refine h1 A L _ hC (fun A1 L1 a1 b1 => ?_)
  refine l_ref2 C dL_law_990 ?_
  refine l_arg (pc := 991) (j := 1) C dL_law_991 dL_law_992 dL_law_993 dL_law_994 dL_law_995 rfl (by omega) ?_
  refine l_arg (pc := 996) (j := 2) C dL_law_996 dL_law_997 dL_law_998 dL_law_999 dL_law_1000 rfl (by omega) ?_
  refine l_arg (pc := 1001) (j := 3) C dL_law_1001 dL_law_1002 dL_law_1003 dL_law_1004 dL_law_1005 rfl (by omega) ?_
  refine l_arg (pc := 1006) (j := 4) C dL_law_1006 dL_law_1007 dL_law_1008 dL_law_1009 dL_law_1010 rfl (by omega) ?_
  refine l_arg (pc := 1011) (j := 5) C dL_law_1011 dL_law_1012 dL_law_1013 dL_law_1014 dL_law_1015 rfl (by omega) ?_
  refine l_call (as := [.int (xs (k + 1)), .int (xs (k + 2)), .int (xs (k + 3)), .int (xs (k + 4)), .int (xs (k + 5))]) C dL_law_1016 lk_L_120 (ly_38 c9) rfl rfl rfl (Nat.le_of_ble_eq_true rfl) ?_
  refine h2 A1 L1 _ (hM.high b1) (fun A2 L2 a2 b2 => ?_)
  refine l_eqI C dL_law_1019 (by decide) ?_
  exact kk S' T' n' z' A2 L2 hW' (a1.low b2) a2
theorem lo_pairs (C : lX E p s m meth c b Ln kc ks xs) (hk : k + 6 ≤ Ln) (hW : WfS S T n z) (hC : RC A S T n z) (hM : RM A S T) (kk : ∀ (S' : mA) (T' n' z' : Nat) (A' : mA) (L' : mJ), WfS S' T' n' z' → RC A' S' T' n' z' → RM A' S' T' → lG E p l e s m below meth c b kc ks (nI k) 1110 [] A' L') : lG E p l e s m below meth c b kc ks (nI k) 1024 [] A L := by
  have c9 := C.2.2.2.2.2.2.2.2.1
  obtain ⟨r, S', T', n', z', ⟨v, rfl⟩, hW', h1, h2⟩ := op_pairs (E := E) (d := 97) c9 hW (xs (k + 1)) (xs (k + 2)) (xs (k + 3)) (xs (k + 4))
  refine l_ref1 C dL_law_1024 ?_
  refine l_arg (pc := 1025) (j := 1) C dL_law_1025 dL_law_1026 dL_law_1027 dL_law_1028 dL_law_1029 rfl (by omega) ?_
  refine l_arg (pc := 1030) (j := 2) C dL_law_1030 dL_law_1031 dL_law_1032 dL_law_1033 dL_law_1034 rfl (by omega) ?_
  refine l_arg (pc := 1035) (j := 3) C dL_law_1035 dL_law_1036 dL_law_1037 dL_law_1038 dL_law_1039 rfl (by omega) ?_
  refine l_arg (pc := 1040) (j := 4) C dL_law_1040 dL_law_1041 dL_law_1042 dL_law_1043 dL_law_1044 rfl (by omega) ?_
  refine l_call (as := [.int (xs (k + 1)), .int (xs (k + 2)), .int (xs (k + 3)), .int (xs (k + 4))]) C dL_law_1045 lk_L_121 (ly_0 c9.c) rfl rfl rfl (Nat.le_of_ble_eq_true rfl) ?_
  refine h1 A L _ hC (fun A1 L1 a1 b1 => ?_)
  refine l_ref2 C dL_law_1048 ?_
  refine l_arg (pc := 1049) (j := 1) C dL_law_1049 dL_law_1050 dL_law_1051 dL_law_1052 dL_law_1053 rfl (by omega) ?_
  refine l_arg (pc := 1054) (j := 2) C dL_law_1054 dL_law_1055 dL_law_1056 dL_law_1057 dL_law_1058 rfl (by omega) ?_
  refine l_arg (pc := 1059) (j := 3) C dL_law_1059 dL_law_1060 dL_law_1061 dL_law_1062 dL_law_1063 rfl (by omega) ?_
  refine l_arg (pc := 1064) (j := 4) C dL_law_1064 dL_law_1065 dL_law_1066 dL_law_1067 dL_law_1068 rfl (by omega) ?_
  refine l_call (as := [.int (xs (k + 1)), .int (xs (k + 2)), .int (xs (k + 3)), .int (xs (k + 4))]) C dL_law_1069 lk_L_125 (ly_38 c9) rfl rfl rfl (Nat.le_of_ble_eq_true rfl) ?_
  refine h2 A1 L1 _ (hM.high b1) (fun A2 L2 a2 b2 => ?_)
  refine l_eqI C dL_law_1072 (by decide) ?_
  exact kk S' T' n' z' A2 L2 hW' (a1.low b2) a2
theorem lo_taken (C : lX E p s m meth c b Ln kc ks xs) (hk : k + 6 ≤ Ln) (hW : WfS S T n z) (hC : RC A S T n z) (hM : RM A S T) (kk : ∀ (S' : mA) (T' n' z' : Nat) (A' : mA) (L' : mJ), WfS S' T' n' z' → RC A' S' T' n' z' → RM A' S' T' → lG E p l e s m below meth c b kc ks (nI k) 1110 [] A' L') : lG E p l e s m below meth c b kc ks (nI k) 1077 [] A L := by
  have c9 := C.2.2.2.2.2.2.2.2.1
  obtain ⟨r, S', T', n', z', ⟨v, rfl⟩, hW', h1, h2⟩ := op_taken (E := E) (d := 97) c9 hW (xs (k + 1)) (xs (k + 2))
  refine l_ref1 C dL_law_1077 ?_
  refine l_arg (pc := 1078) (j := 1) C dL_law_1078 dL_law_1079 dL_law_1080 dL_law_1081 dL_law_1082 rfl (by omega) ?_
  refine l_arg (pc := 1083) (j := 2) C dL_law_1083 dL_law_1084 dL_law_1085 dL_law_1086 dL_law_1087 rfl (by omega) ?_
  refine l_call (as := [.int (xs (k + 1)), .int (xs (k + 2))]) C dL_law_1088 lk_L_126 (ly_0 c9.c) rfl rfl rfl (Nat.le_of_ble_eq_true rfl) ?_
  refine h1 A L _ hC (fun A1 L1 a1 b1 => ?_)
  refine l_ref2 C dL_law_1091 ?_
  refine l_arg (pc := 1092) (j := 1) C dL_law_1092 dL_law_1093 dL_law_1094 dL_law_1095 dL_law_1096 rfl (by omega) ?_
  refine l_arg (pc := 1097) (j := 2) C dL_law_1097 dL_law_1098 dL_law_1099 dL_law_1100 dL_law_1101 rfl (by omega) ?_
  refine l_call (as := [.int (xs (k + 1)), .int (xs (k + 2))]) C dL_law_1102 lk_L_129 (ly_38 c9) rfl rfl rfl (Nat.le_of_ble_eq_true rfl) ?_
  refine h2 A1 L1 _ (hM.high b1) (fun A2 L2 a2 b2 => ?_)
  refine l_eqI C dL_law_1105 (by decide) ?_
  exact kk S' T' n' z' A2 L2 hW' (a1.low b2) a2
theorem l_switch (C : lX E p s m meth c b Ln kc ks xs) (hk : k + 6 ≤ Ln) (hW : WfS S T n z) (hC : RC A S T n z) (hM : RM A S T) (kk : ∀ (S' : mA) (T' n' z' : Nat) (A' : mA) (L' : mJ), WfS S' T' n' z' → RC A' S' T' n' z' → RM A' S' T' → lG E p l e s m below meth c b kc ks (nI k) 1110 [] A' L') {q : Nat} (hq : q < 32) : lG E p l e s m below meth c b kc ks (nI k) 33 [.int (nI q)] A L := by
  intro H locs ls hP hS hl
  have hx : (nI q).toInt = (q : Int) := nI_toInt (by omega)
  by_cases h : 27 ≤ q
  · exact lv_tableOut (tgt := 1110) C.1 C.2.1 dL_law_33 (Or.inr (by rw [hx]; omega)) (by decide) (kk S T n z A L hW hC hM H locs ls hP hS hl)
  · rcases (by omega : q = 0 ∨ q = 1 ∨ q = 2 ∨ q = 3 ∨ q = 4 ∨ q = 5 ∨ q = 6 ∨ q = 7 ∨ q = 8 ∨ q = 9 ∨ q = 10 ∨ q = 11 ∨ q = 12 ∨ q = 13 ∨ q = 14 ∨ q = 15 ∨ q = 16 ∨ q = 17 ∨ q = 18 ∨ q = 19 ∨ q = 20 ∨ q = 21 ∨ q = 22 ∨ q = 23 ∨ q = 24 ∨ q = 25 ∨ q = 26) with rfl | rfl | rfl | rfl | rfl | rfl | rfl | rfl | rfl | rfl | rfl | rfl | rfl | rfl | rfl | rfl | rfl | rfl | rfl | rfl | rfl | rfl | rfl | rfl | rfl | rfl | rfl
    · exact lv_tableIn (tgt := 156) C.1 C.2.1 dL_law_33 (by decide) (by decide) rfl (by decide) (lo_set C hk hW hC hM kk H locs ls hP hS hl)
    · exact lv_tableIn (tgt := 199) C.1 C.2.1 dL_law_33 (by decide) (by decide) rfl (by decide) (lo_pair C hk hW hC hM kk H locs ls hP hS hl)
    · exact lv_tableIn (tgt := 242) C.1 C.2.1 dL_law_33 (by decide) (by decide) rfl (by decide) (lo_told C hk hW hC hM kk H locs ls hP hS hl)
    · exact lv_tableIn (tgt := 275) C.1 C.2.1 dL_law_33 (by decide) (by decide) rfl (by decide) (lo_feed C hk hW hC hM kk H locs ls hP hS hl)
    · exact lv_tableIn (tgt := 298) C.1 C.2.1 dL_law_33 (by decide) (by decide) rfl (by decide) (lo_text C hk hW hC hM kk H locs ls hP hS hl)
    · exact lv_tableIn (tgt := 311) C.1 C.2.1 dL_law_33 (by decide) (by decide) rfl (by decide) (lo_force C hk hW hC hM kk H locs ls hP hS hl)
    · exact lv_tableIn (tgt := 334) C.1 C.2.1 dL_law_33 (by decide) (by decide) rfl (by decide) (lo_say C hk hW hC hM kk H locs ls hP hS hl)
    · exact lv_tableIn (tgt := 367) C.1 C.2.1 dL_law_33 (by decide) (by decide) rfl (by decide) (lo_quiet C hk hW hC hM kk H locs ls hP hS hl)
    · exact lv_tableIn (tgt := 390) C.1 C.2.1 dL_law_33 (by decide) (by decide) rfl (by decide) (lo_view C hk hW hC hM kk H locs ls hP hS hl)
    · exact lv_tableIn (tgt := 413) C.1 C.2.1 dL_law_33 (by decide) (by decide) rfl (by decide) (lo_clear C hk hW hC hM kk H locs ls hP hS hl)
    · exact lv_tableIn (tgt := 437) C.1 C.2.1 dL_law_33 (by decide) (by decide) rfl (by decide) (lo_fewest C hk hW hC hM kk H locs ls hP hS hl)
    · exact lv_tableIn (tgt := 480) C.1 C.2.1 dL_law_33 (by decide) (by decide) rfl (by decide) (lo_words C hk hW hC hM kk H locs ls hP hS hl)
    · exact lv_tableIn (tgt := 513) C.1 C.2.1 dL_law_33 (by decide) (by decide) rfl (by decide) (lo_stays C hk hW hC hM kk H locs ls hP hS hl)
    · exact lv_tableIn (tgt := 546) C.1 C.2.1 dL_law_33 (by decide) (by decide) rfl (by decide) (lo_rows C hk hW hC hM kk H locs ls hP hS hl)
    · exact lv_tableIn (tgt := 600) C.1 C.2.1 dL_law_33 (by decide) (by decide) rfl (by decide) (lo_whom C hk hW hC hM kk H locs ls hP hS hl)
    · exact lv_tableIn (tgt := 633) C.1 C.2.1 dL_law_33 (by decide) (by decide) rfl (by decide) (lo_tells C hk hW hC hM kk H locs ls hP hS hl)
    · exact lv_tableIn (tgt := 676) C.1 C.2.1 dL_law_33 (by decide) (by decide) rfl (by decide) (lo_film C hk hW hC hM kk H locs ls hP hS hl)
    · exact lv_tableIn (tgt := 719) C.1 C.2.1 dL_law_33 (by decide) (by decide) rfl (by decide) (lo_drawn C hk hW hC hM kk H locs ls hP hS hl)
    · exact lv_tableIn (tgt := 762) C.1 C.2.1 dL_law_33 (by decide) (by decide) rfl (by decide) (lo_chance C hk hW hC hM kk H locs ls hP hS hl)
    · exact lv_tableIn (tgt := 826) C.1 C.2.1 dL_law_33 (by decide) (by decide) rfl (by decide) (lo_image C hk hW hC hM kk H locs ls hP hS hl)
    · exact lv_tableIn (tgt := 839) C.1 C.2.1 dL_law_33 (by decide) (by decide) rfl (by decide) (lo_back C hk hW hC hM kk H locs ls hP hS hl)
    · exact lv_tableIn (tgt := 852) C.1 C.2.1 dL_law_33 (by decide) (by decide) rfl (by decide) (lo_count C hk hW hC hM kk H locs ls hP hS hl)
    · exact lv_tableIn (tgt := 875) C.1 C.2.1 dL_law_33 (by decide) (by decide) rfl (by decide) (lo_sheet C hk hW hC hM kk H locs ls hP hS hl)
    · exact lv_tableIn (tgt := 918) C.1 C.2.1 dL_law_33 (by decide) (by decide) rfl (by decide) (lo_cell C hk hW hC hM kk H locs ls hP hS hl)
    · exact lv_tableIn (tgt := 961) C.1 C.2.1 dL_law_33 (by decide) (by decide) rfl (by decide) (lo_copy C hk hW hC hM kk H locs ls hP hS hl)
    · exact lv_tableIn (tgt := 1024) C.1 C.2.1 dL_law_33 (by decide) (by decide) rfl (by decide) (lo_pairs C hk hW hC hM kk H locs ls hP hS hl)
    · exact lv_tableIn (tgt := 1077) C.1 C.2.1 dL_law_33 (by decide) (by decide) rfl (by decide) (lo_taken C hk hW hC hM kk H locs ls hP hS hl)
theorem law_loop (C : lX E p s m meth c b Ln kc ks xs) : ∀ (f k : Nat) (A : mA) (L : mJ) (S : mA) (T n z : Nat), k ≤ Ln → Ln ≤ k + 6 * f → WfS S T n z → RC A S T n z → RM A S T → lG E p l e s m below meth c b kc ks (nI k) 18 [] A L := by
  intro f
  induction f with
  | zero => exact fun k A L S T n z h1 h2 hW hC hM => lw_head C (Nat.le_trans h1 C.2.2.2.2.2.2.1.2.2.2) (fun h => by omega)
  | succ f ih => exact fun k A L S T n z h1 h2 hW hC hM => lw_head C (Nat.le_trans h1 C.2.2.2.2.2.2.1.2.2.2) (fun h q hq => l_switch C h hW hC hM (fun S' T' n' z' A' L' a b c => l_next C (ih (k + 6) A' L' S' T' n' z' h (by omega) a b c)) hq)
end LAWCASES
