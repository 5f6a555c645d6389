/-! tells -/
section OPS15
variable {E : mE} {d : Nat} {A S : mA} {L : mJ} {Ph : mP} {T n z p r s : Nat} {kd nr : Int32}
set_option maxRecDepth 100000 in
set_option maxHeartbeats 400000 in
theorem sp_fk (hs : s < 4) {y : Nat} (hy : y ≤ 40) {a : Int32} (hc : CE E A S T r kd nr) (hh : SH A S s y) (h : ∀ A', Fr [5, 24, 26] A A' → Ph (some (.int (bsF (fun v => ow S r (nI v) nr s y a) 6 0 0))) A' L) : qC E mm_X6_fittingKinds (d + 5) [.ref 0, .ref (8 + s), .int a] A L Ph := by
  refine qC.enter (by decide) (Nat.le_of_ble_eq_true rfl) ?_
  refine r_iconst (v := 0) dX6_fittingKinds_0 rfl ?_
  refine r_istore_n (loc' := [(3, .int 0), (0, .ref 0), (1, .ref (8 + s)), (2, .int a)]) dX6_fittingKinds_1 (by decide) rfl ?_
  refine r_iconst (v := 0) dX6_fittingKinds_2 rfl ?_
  refine r_istore (loc' := [(4, .int 0), (3, .int 0), (0, .ref 0), (1, .ref (8 + s)), (2, .int a)]) dX6_fittingKinds_3 (by decide) rfl ?_
  refine qG.pick [0, 1, 2, 3, 4] rfl ?_
  exact ck_loop hs hy 6 0 0 A kd rfl hc hh h
set_option maxRecDepth 100000 in
set_option maxHeartbeats 400000 in
theorem sp_fn (hs : s < 4) {y : Nat} (hy : y ≤ 40) {a : Int32} (hc : CE E A S T r kd nr) (hh : SH A S s y) (h : ∀ A', Fr [5, 24, 26] A A' → Ph (some (.int (bsF (fun v => ow S r kd (nI v) s y a) 10 0 0))) A' L) : qC E mm_X6_fittingNumbers (d + 5) [.ref 0, .ref (8 + s), .int a] A L Ph := by
  refine qC.enter (by decide) (Nat.le_of_ble_eq_true rfl) ?_
  refine r_iconst (v := 0) dX6_fittingNumbers_0 rfl ?_
  refine r_istore_n (loc' := [(3, .int 0), (0, .ref 0), (1, .ref (8 + s)), (2, .int a)]) dX6_fittingNumbers_1 (by decide) rfl ?_
  refine r_iconst (v := 0) dX6_fittingNumbers_2 rfl ?_
  refine r_istore (loc' := [(4, .int 0), (3, .int 0), (0, .ref 0), (1, .ref (8 + s)), (2, .int a)]) dX6_fittingNumbers_3 (by decide) rfl ?_
  refine qG.pick [0, 1, 2, 3, 4] rfl ?_
  exact cn_loop hs hy 10 0 0 A nr rfl hc hh h
set_option maxRecDepth 100000 in
set_option maxHeartbeats 400000 in
theorem sp_fw (hs : s < 4) {y : Nat} (hy : y ≤ 40) {a : Int32} (hc : CE E A S T r kd nr) (hh : SH A S s y) (h : ∀ A', Fr [5, 24, 26] A A' → Ph (some (.int (bsF (fun v => ow S r kd nr s y (bwF S r kd nr a (nI v))) 6 0 0))) A' L) : qC E mm_X6_fittingWords (d + 5) [.ref 0, .ref (8 + s), .int a] A L Ph := by
  refine qC.enter (by decide) (Nat.le_of_ble_eq_true rfl) ?_
  refine r_iconst (v := 0) dX6_fittingWords_0 rfl ?_
  refine r_istore_n (loc' := [(3, .int 0), (0, .ref 0), (1, .ref (8 + s)), (2, .int a)]) dX6_fittingWords_1 (by decide) rfl ?_
  refine r_iconst (v := 0) dX6_fittingWords_2 rfl ?_
  refine r_istore (loc' := [(4, .int 0), (3, .int 0), (0, .ref 0), (1, .ref (8 + s)), (2, .int a)]) dX6_fittingWords_3 (by decide) rfl ?_
  refine qG.pick [0, 1, 2, 3, 4] rfl ?_
  exact cw_loop hs hy 6 0 0 A rfl hc hh h
set_option maxRecDepth 100000 in
set_option maxHeartbeats 400000 in
theorem sp_ft (hs : s < 4) {y : Nat} (hy : y ≤ 40) {a : Int32} (hT : T ≤ 6) (h11 : S 38 11 = nI T) (hx : ∀ r, r < T → ∃ e, TXv S r e) (hc : CE E A S T r kd nr) (hh : SH A S s y) (h : ∀ A', Fr [5, 24, 26] A A' → Ph (some (.int (bsF (fun v => ow S v kd nr s y a) T 0 0))) A' L) : qC E mm_X6_fittingTexts (d + 5) [.ref 0, .ref (8 + s), .int a] A L Ph := by
  refine qC.enter (by decide) (Nat.le_of_ble_eq_true rfl) ?_
  refine r_iconst (v := 0) dX6_fittingTexts_0 rfl ?_
  refine r_istore_n (loc' := [(3, .int 0), (0, .ref 0), (1, .ref (8 + s)), (2, .int a)]) dX6_fittingTexts_1 (by decide) rfl ?_
  refine r_iconst (v := 0) dX6_fittingTexts_2 rfl ?_
  refine r_istore (loc' := [(4, .int 0), (3, .int 0), (0, .ref 0), (1, .ref (8 + s)), (2, .int a)]) dX6_fittingTexts_3 (by decide) rfl ?_
  refine qG.pick [0, 1, 2, 3, 4] rfl ?_
  exact ct_loop hs hy hT h11 hx T 0 0 A r (by omega) hc hh h
set_option maxRecDepth 100000 in
set_option maxHeartbeats 400000 in
theorem sp_fp (hs : s < 4) {y : Nat} (hy : y ≤ 40) (hE : hC E) (hW : WfS S T n z) (hR : RC A S T n z) (hh : SH A S s y) (h : ∀ A', Fr [5, 24, 26] A A' → Ph (some (.int (bsF (fun v => ow S (rF S) (kdP S v) (nrP S v) s y (anP S v)) n 0 0))) A' L) : qC E mm_X6_fittingPairs (d + 5) [.ref 0, .ref (8 + s)] A L Ph := by
  refine qC.enter (by decide) (Nat.le_of_ble_eq_true rfl) ?_
  refine r_iconst (v := 0) dX6_fittingPairs_0 rfl ?_
  refine r_istore_n (loc' := [(2, .int 0), (0, .ref 0), (1, .ref (8 + s))]) dX6_fittingPairs_1 (by decide) rfl ?_
  refine r_iconst (v := 0) dX6_fittingPairs_2 rfl ?_
  refine r_istore_n (loc' := [(3, .int 0), (2, .int 0), (0, .ref 0), (1, .ref (8 + s))]) dX6_fittingPairs_3 (by decide) rfl ?_
  refine qG.pick [0, 1, 2, 3] rfl ?_
  exact cp_loop (a := 0) hs hy hE hW n 0 0 A (by omega) hR hh h
set_option maxRecDepth 100000 in
set_option maxHeartbeats 400000 in
theorem sp_fa (hs : s < 4) {y : Nat} (hy : y ≤ 40) {f : Nat → Int32} {N : Nat} (hN : N = 100) (hf : ∀ v, ow S r kd nr s y (nI v) = f v) (hc : CE E A S T r kd nr) (hh : SH A S s y) (h : ∀ A', Fr [5, 24, 26] A A' → Ph (some (.int (nI (cA f N)))) A' L) : qC E mm_X6_fittingAngers (d + 5) [.ref 0, .ref (8 + s)] A L Ph := by
  refine qC.enter (by decide) (Nat.le_of_ble_eq_true rfl) ?_
  refine r_iconst (v := 0) dX6_fittingAngers_0 rfl ?_
  refine r_istore_n (loc' := [(2, .int 0), (0, .ref 0), (1, .ref (8 + s))]) dX6_fittingAngers_1 (by decide) rfl ?_
  refine r_iconst (v := 0) dX6_fittingAngers_2 rfl ?_
  refine r_istore_n (loc' := [(3, .int 0), (2, .int 0), (0, .ref 0), (1, .ref (8 + s))]) dX6_fittingAngers_3 (by decide) rfl ?_
  refine qG.pick [0, 1, 2, 3] rfl ?_
  exact ca_loop hs hy hN hf N 0 A (by omega) hc hh h
set_option maxRecDepth 100000 in
set_option maxHeartbeats 400000 in
theorem sp_fl (hs : s < 4) {y : Nat} (hy : y ≤ 40) {f : Nat → Int32} {N : Nat} (hN : N = 100) (hf : ∀ v, ow S r kd nr s y (nI v) = f v) (hc : CE E A S T r kd nr) (hh : SH A S s y) (h : ∀ A', Fr [5, 24, 26] A A' → Ph (some (.int (leF f N 0))) A' L) : qC E mm_X6_leastFittingAnger (d + 5) [.ref 0, .ref (8 + s)] A L Ph := by
  refine qC.enter (by decide) (Nat.le_of_ble_eq_true rfl) ?_
  refine r_iconst (v := 0) dX6_leastFittingAnger_0 rfl ?_
  refine r_istore_n (loc' := [(2, .int 0), (0, .ref 0), (1, .ref (8 + s))]) dX6_leastFittingAnger_1 (by decide) rfl ?_
  refine qG.pick [0, 1, 2] rfl ?_
  exact cl_loop hs hy hN hf N 0 A (by omega) hc hh h
set_option maxRecDepth 100000 in
set_option maxHeartbeats 400000 in
theorem mt_loop1 (hE : hM E) (hW : WfS S T n z) (hs : s < 4) {y : Nat} (hy : y ≤ 40) (h54 : S 54 s = nI y) (hp : p < n) : ∀ (k i : Nat) (c : Int32) (A : mA), i + k = 6 → RM A S T → (∀ A', FM A A' → Ph (some (.int (bsF (fun v => ow S (rF S) (nI v) (nrP S p) s y (anP S p)) k i c))) A' L) → qG E mm_X7_tells (d + 8) 141 [(7, .int (nI i)), (6, .int c), (5, .int (nI 6)), (4, .int (anP S p)), (0, .ref 38), (1, .int (nI s)), (2, .int (nI p)), (3, .int 1)] [] A L Ph := by
  have hn := hW.2.2.2.2.1.1
  have hT := hW.2.1
  intro k
  induction k with
  | zero =>
    intro i c A hi hR h
    have hi : i = 6 := by omega
    rw [hi]
    refine r_iload dX7_tells_141 rfl ?_
    refine r_iload dX7_tells_143 rfl ?_
    refine r_icmp_ge (tgt := 283) dX7_tells_145 (by decide) (fun _ => ?_) (fun hqz => absurd (nI_le (Nat.le_refl _) (by decide)) hqz)
    refine r_iload dX7_tells_283 rfl ?_
    refine r_ireturn dX7_tells_285 rfl rfl ?_
    exact h A FM.rf
  | succ k ih =>
    intro i c A hi hR h
    rw [bsF] at h
    refine r_iload dX7_tells_141 rfl ?_
    refine r_iload dX7_tells_143 rfl ?_
    refine r_icmp_ge (tgt := 283) dX7_tells_145 (by decide) (fun hqz => absurd hqz (nI_ge (show i < 6 by omega) (by decide))) (fun _ => ?_)
    refine r_aload_n dX7_tells_148 rfl ?_
    refine r_iload_n dX7_tells_149 rfl ?_
    refine r_bipush (v := 7) dX7_tells_150 rfl ?_
    refine r_icmp_ne (tgt := 160) dX7_tells_152 (by decide) (fun _ => ?_) (fun hqz => absurd hqz (by decide))
    refine r_iload_n dX7_tells_160 rfl ?_
    refine r_callV1 dX7_tells_161 lk_X7_97 (ly_38 hE) rfl (Nat.le_of_ble_eq_true rfl) (mo_take hE hW hR hp (fun A1 f1 fm hm => ?_))
    refine r_aload_n dX7_tells_164 rfl ?_
    refine r_iload_n dX7_tells_165 rfl ?_
    refine r_iconst (v := 1) dX7_tells_166 rfl ?_
    refine r_icmp_ne (tgt := 175) dX7_tells_167 (by decide) (fun hqz => absurd (by decide) hqz) (fun _ => ?_)
    refine r_iload dX7_tells_170 rfl ?_
    refine r_goto (tgt := 179) dX7_tells_172 (by decide) ?_
    refine r_putI dX7_tells_179 fl_X7_200 fp_7_17 (ly_38 hE) rfl rfl rfl ?_
    refine r_aload_n dX7_tells_182 rfl ?_
    refine r_iload_n dX7_tells_183 rfl ?_
    refine r_iconst (v := 2) dX7_tells_184 rfl ?_
    refine r_icmp_ne (tgt := 193) dX7_tells_185 (by decide) (fun _ => ?_) (fun hqz => absurd hqz (by decide))
    refine r_aload_n dX7_tells_193 rfl ?_
    refine r_getI dX7_tells_194 fl_X7_190 (ly_38 hE) rfl ?_
    refine r_rw (y := nrP S p) ((s2_nj (fun _ => by decide)).trans hm.2.2.2.2.2.2.1) ?_
    refine r_putI dX7_tells_197 fl_X7_190 fp_7_18 (ly_38 hE) rfl rfl rfl ?_
    refine r_aload_n dX7_tells_200 rfl ?_
    refine r_iload_n dX7_tells_201 rfl ?_
    refine r_iconst (v := 5) dX7_tells_202 rfl ?_
    refine r_icmp_ne (tgt := 211) dX7_tells_203 (by decide) (fun _ => ?_) (fun hqz => absurd hqz (by decide))
    refine r_aload_n dX7_tells_211 rfl ?_
    refine r_getI dX7_tells_212 fl_X7_187 (ly_38 hE) rfl ?_
    refine r_rw (y := nI (rF S)) ((s2_nj (fun _ => by decide)).trans ((s2_nj (fun _ => by decide)).trans hm.2.2.2.2.2.2.2.1)) ?_
    refine r_putI dX7_tells_215 fl_X7_187 fp_7_19 (ly_38 hE) rfl rfl rfl ?_
    have hm' := hm.tk (kd' := (nI i)) (nr' := (nrP S p)) (q := (rF S)) hm.2.2.1 hm.2.2.2.2.1
    refine r_iload_n dX7_tells_218 rfl ?_
    refine r_bipush (v := 6) dX7_tells_219 rfl ?_
    refine r_icmp_ne (tgt := 235) dX7_tells_221 (by decide) (fun _ => ?_) (fun hqz => absurd hqz (by decide))
    refine r_iload_n dX7_tells_235 rfl ?_
    refine r_bipush (v := 7) dX7_tells_236 rfl ?_
    refine r_icmp_ne (tgt := 250) dX7_tells_238 (by decide) (fun _ => ?_) (fun hqz => absurd hqz (by decide))
    refine r_iload dX7_tells_250 rfl ?_
    refine r_topi (fun v252 e252 => ?_)
    refine r_istore (loc' := [(8, .int v252), (7, .int (nI i)), (6, .int c), (5, .int (nI 6)), (4, .int (anP S p)), (0, .ref 38), (1, .int (nI s)), (2, .int (nI p)), (3, .int 1)]) dX7_tells_252 (by decide) rfl ?_
    refine r_iload dX7_tells_254 rfl ?_
    refine r_aload_n dX7_tells_256 rfl ?_
    refine r_iload_n dX7_tells_257 rfl ?_
    refine r_iload dX7_tells_258 rfl ?_
    refine r_callV2 dX7_tells_260 lk_X7_263 (ly_38 hE) rfl (Nat.le_of_ble_eq_true rfl) (sp_fits hs hy h54 hm' (fun A3 f3 hq => ?_) (fun A3 f3 hq => ?_))
    · refine r_if_eq (tgt := 273) dX7_tells_263 (by decide) (fun hqz => absurd hqz (by decide)) (fun _ => ?_)
      refine r_iconst (v := 1) dX7_tells_266 rfl ?_
      refine r_iload dX7_tells_267 rfl ?_
      refine r_ishl dX7_tells_269 ?_
      refine r_goto (tgt := 274) dX7_tells_270 (by decide) ?_
      refine r_ior dX7_tells_274 ?_
      refine r_topi (fun v275 e275 => ?_)
      refine r_istore (loc' := [(6, .int v275), (8, .int v252), (7, .int (nI i)), (5, .int (nI 6)), (4, .int (anP S p)), (0, .ref 38), (1, .int (nI s)), (2, .int (nI p)), (3, .int 1)]) dX7_tells_275 (by decide) rfl ?_
      refine r_iinc (v := (nI (i + 1))) (loc' := [(7, .int (nI (i + 1))), (6, .int v275), (8, .int v252), (5, .int (nI 6)), (4, .int (anP S p)), (0, .ref 38), (1, .int (nI s)), (2, .int (nI p)), (3, .int 1)]) dX7_tells_277 rfl ((nI_succ _).symm) (by decide) rfl ?_
      refine r_goto (tgt := 141) dX7_tells_280 (by decide) ?_
      refine qG.pick [0, 1, 3, 4, 5, 6, 7, 8] rfl ?_
      rw [show (c ||| if ow S (rF S) (nI i) (nrP S p) s y (anP S p) = -1 then sh1 i else 0) = v275 from by subst e275; subst e252; first | (rw [if_pos hq]; rfl) | (rw [if_neg hq]; done)] at h
      exact ih (i + 1) _ A3 (by omega) (hm'.f46 f3).rm (fun A4 f4 => h A4 (((fm.tr fm_tk).tr (fm46 f3)).tr f4))
    · refine r_if_eq (tgt := 273) dX7_tells_263 (by decide) (fun _ => ?_) (fun hqz => absurd (by decide) hqz)
      refine r_iconst (v := 0) dX7_tells_273 rfl ?_
      refine r_ior dX7_tells_274 ?_
      refine r_topi (fun v275 e275 => ?_)
      refine r_istore (loc' := [(6, .int v275), (8, .int v252), (7, .int (nI i)), (5, .int (nI 6)), (4, .int (anP S p)), (0, .ref 38), (1, .int (nI s)), (2, .int (nI p)), (3, .int 1)]) dX7_tells_275 (by decide) rfl ?_
      refine r_iinc (v := (nI (i + 1))) (loc' := [(7, .int (nI (i + 1))), (6, .int v275), (8, .int v252), (5, .int (nI 6)), (4, .int (anP S p)), (0, .ref 38), (1, .int (nI s)), (2, .int (nI p)), (3, .int 1)]) dX7_tells_277 rfl ((nI_succ _).symm) (by decide) rfl ?_
      refine r_goto (tgt := 141) dX7_tells_280 (by decide) ?_
      refine qG.pick [0, 1, 3, 4, 5, 6, 7, 8] rfl ?_
      rw [show (c ||| if ow S (rF S) (nI i) (nrP S p) s y (anP S p) = -1 then sh1 i else 0) = v275 from by subst e275; subst e252; first | (rw [if_pos hq]; rfl) | (rw [if_neg hq]; done)] at h
      exact ih (i + 1) _ A3 (by omega) (hm'.f46 f3).rm (fun A4 f4 => h A4 (((fm.tr fm_tk).tr (fm46 f3)).tr f4))
set_option maxRecDepth 100000 in
set_option maxHeartbeats 400000 in
theorem mt_loop2 (hE : hM E) (hW : WfS S T n z) (hs : s < 4) {y : Nat} (hy : y ≤ 40) (h54 : S 54 s = nI y) (hp : p < n) : ∀ (k i : Nat) (c : Int32) (A : mA), i + k = 10 → RM A S T → (∀ A', FM A A' → Ph (some (.int (bsF (fun v => ow S (rF S) (kdP S p) (nI v) s y (anP S p)) k i c))) A' L) → qG E mm_X7_tells (d + 8) 141 [(7, .int (nI i)), (6, .int c), (5, .int (nI 10)), (4, .int (anP S p)), (0, .ref 38), (1, .int (nI s)), (2, .int (nI p)), (3, .int 2)] [] A L Ph := by
  have hn := hW.2.2.2.2.1.1
  have hT := hW.2.1
  intro k
  induction k with
  | zero =>
    intro i c A hi hR h
    have hi : i = 10 := by omega
    rw [hi]
    refine r_iload dX7_tells_141 rfl ?_
    refine r_iload dX7_tells_143 rfl ?_
    refine r_icmp_ge (tgt := 283) dX7_tells_145 (by decide) (fun _ => ?_) (fun hqz => absurd (nI_le (Nat.le_refl _) (by decide)) hqz)
    refine r_iload dX7_tells_283 rfl ?_
    refine r_ireturn dX7_tells_285 rfl rfl ?_
    exact h A FM.rf
  | succ k ih =>
    intro i c A hi hR h
    rw [bsF] at h
    refine r_iload dX7_tells_141 rfl ?_
    refine r_iload dX7_tells_143 rfl ?_
    refine r_icmp_ge (tgt := 283) dX7_tells_145 (by decide) (fun hqz => absurd hqz (nI_ge (show i < 10 by omega) (by decide))) (fun _ => ?_)
    refine r_aload_n dX7_tells_148 rfl ?_
    refine r_iload_n dX7_tells_149 rfl ?_
    refine r_bipush (v := 7) dX7_tells_150 rfl ?_
    refine r_icmp_ne (tgt := 160) dX7_tells_152 (by decide) (fun _ => ?_) (fun hqz => absurd hqz (by decide))
    refine r_iload_n dX7_tells_160 rfl ?_
    refine r_callV1 dX7_tells_161 lk_X7_97 (ly_38 hE) rfl (Nat.le_of_ble_eq_true rfl) (mo_take hE hW hR hp (fun A1 f1 fm hm => ?_))
    refine r_aload_n dX7_tells_164 rfl ?_
    refine r_iload_n dX7_tells_165 rfl ?_
    refine r_iconst (v := 1) dX7_tells_166 rfl ?_
    refine r_icmp_ne (tgt := 175) dX7_tells_167 (by decide) (fun _ => ?_) (fun hqz => absurd hqz (by decide))
    refine r_aload_n dX7_tells_175 rfl ?_
    refine r_getI dX7_tells_176 fl_X7_200 (ly_38 hE) rfl ?_
    refine r_rw (y := kdP S p) hm.2.2.2.2.2.1 ?_
    refine r_putI dX7_tells_179 fl_X7_200 fp_7_17 (ly_38 hE) rfl rfl rfl ?_
    refine r_aload_n dX7_tells_182 rfl ?_
    refine r_iload_n dX7_tells_183 rfl ?_
    refine r_iconst (v := 2) dX7_tells_184 rfl ?_
    refine r_icmp_ne (tgt := 193) dX7_tells_185 (by decide) (fun hqz => absurd (by decide) hqz) (fun _ => ?_)
    refine r_iload dX7_tells_188 rfl ?_
    refine r_goto (tgt := 197) dX7_tells_190 (by decide) ?_
    refine r_putI dX7_tells_197 fl_X7_190 fp_7_18 (ly_38 hE) rfl rfl rfl ?_
    refine r_aload_n dX7_tells_200 rfl ?_
    refine r_iload_n dX7_tells_201 rfl ?_
    refine r_iconst (v := 5) dX7_tells_202 rfl ?_
    refine r_icmp_ne (tgt := 211) dX7_tells_203 (by decide) (fun _ => ?_) (fun hqz => absurd hqz (by decide))
    refine r_aload_n dX7_tells_211 rfl ?_
    refine r_getI dX7_tells_212 fl_X7_187 (ly_38 hE) rfl ?_
    refine r_rw (y := nI (rF S)) ((s2_nj (fun _ => by decide)).trans ((s2_nj (fun _ => by decide)).trans hm.2.2.2.2.2.2.2.1)) ?_
    refine r_putI dX7_tells_215 fl_X7_187 fp_7_19 (ly_38 hE) rfl rfl rfl ?_
    have hm' := hm.tk (kd' := (kdP S p)) (nr' := (nI i)) (q := (rF S)) hm.2.2.1 hm.2.2.2.2.1
    refine r_iload_n dX7_tells_218 rfl ?_
    refine r_bipush (v := 6) dX7_tells_219 rfl ?_
    refine r_icmp_ne (tgt := 235) dX7_tells_221 (by decide) (fun _ => ?_) (fun hqz => absurd hqz (by decide))
    refine r_iload_n dX7_tells_235 rfl ?_
    refine r_bipush (v := 7) dX7_tells_236 rfl ?_
    refine r_icmp_ne (tgt := 250) dX7_tells_238 (by decide) (fun _ => ?_) (fun hqz => absurd hqz (by decide))
    refine r_iload dX7_tells_250 rfl ?_
    refine r_topi (fun v252 e252 => ?_)
    refine r_istore (loc' := [(8, .int v252), (7, .int (nI i)), (6, .int c), (5, .int (nI 10)), (4, .int (anP S p)), (0, .ref 38), (1, .int (nI s)), (2, .int (nI p)), (3, .int 2)]) dX7_tells_252 (by decide) rfl ?_
    refine r_iload dX7_tells_254 rfl ?_
    refine r_aload_n dX7_tells_256 rfl ?_
    refine r_iload_n dX7_tells_257 rfl ?_
    refine r_iload dX7_tells_258 rfl ?_
    refine r_callV2 dX7_tells_260 lk_X7_263 (ly_38 hE) rfl (Nat.le_of_ble_eq_true rfl) (sp_fits hs hy h54 hm' (fun A3 f3 hq => ?_) (fun A3 f3 hq => ?_))
    · refine r_if_eq (tgt := 273) dX7_tells_263 (by decide) (fun hqz => absurd hqz (by decide)) (fun _ => ?_)
      refine r_iconst (v := 1) dX7_tells_266 rfl ?_
      refine r_iload dX7_tells_267 rfl ?_
      refine r_ishl dX7_tells_269 ?_
      refine r_goto (tgt := 274) dX7_tells_270 (by decide) ?_
      refine r_ior dX7_tells_274 ?_
      refine r_topi (fun v275 e275 => ?_)
      refine r_istore (loc' := [(6, .int v275), (8, .int v252), (7, .int (nI i)), (5, .int (nI 10)), (4, .int (anP S p)), (0, .ref 38), (1, .int (nI s)), (2, .int (nI p)), (3, .int 2)]) dX7_tells_275 (by decide) rfl ?_
      refine r_iinc (v := (nI (i + 1))) (loc' := [(7, .int (nI (i + 1))), (6, .int v275), (8, .int v252), (5, .int (nI 10)), (4, .int (anP S p)), (0, .ref 38), (1, .int (nI s)), (2, .int (nI p)), (3, .int 2)]) dX7_tells_277 rfl ((nI_succ _).symm) (by decide) rfl ?_
      refine r_goto (tgt := 141) dX7_tells_280 (by decide) ?_
      refine qG.pick [0, 1, 3, 4, 5, 6, 7, 8] rfl ?_
      rw [show (c ||| if ow S (rF S) (kdP S p) (nI i) s y (anP S p) = -1 then sh1 i else 0) = v275 from by subst e275; subst e252; first | (rw [if_pos hq]; rfl) | (rw [if_neg hq]; done)] at h
      exact ih (i + 1) _ A3 (by omega) (hm'.f46 f3).rm (fun A4 f4 => h A4 (((fm.tr fm_tk).tr (fm46 f3)).tr f4))
    · refine r_if_eq (tgt := 273) dX7_tells_263 (by decide) (fun _ => ?_) (fun hqz => absurd (by decide) hqz)
      refine r_iconst (v := 0) dX7_tells_273 rfl ?_
      refine r_ior dX7_tells_274 ?_
      refine r_topi (fun v275 e275 => ?_)
      refine r_istore (loc' := [(6, .int v275), (8, .int v252), (7, .int (nI i)), (5, .int (nI 10)), (4, .int (anP S p)), (0, .ref 38), (1, .int (nI s)), (2, .int (nI p)), (3, .int 2)]) dX7_tells_275 (by decide) rfl ?_
      refine r_iinc (v := (nI (i + 1))) (loc' := [(7, .int (nI (i + 1))), (6, .int v275), (8, .int v252), (5, .int (nI 10)), (4, .int (anP S p)), (0, .ref 38), (1, .int (nI s)), (2, .int (nI p)), (3, .int 2)]) dX7_tells_277 rfl ((nI_succ _).symm) (by decide) rfl ?_
      refine r_goto (tgt := 141) dX7_tells_280 (by decide) ?_
      refine qG.pick [0, 1, 3, 4, 5, 6, 7, 8] rfl ?_
      rw [show (c ||| if ow S (rF S) (kdP S p) (nI i) s y (anP S p) = -1 then sh1 i else 0) = v275 from by subst e275; subst e252; first | (rw [if_pos hq]; rfl) | (rw [if_neg hq]; done)] at h
      exact ih (i + 1) _ A3 (by omega) (hm'.f46 f3).rm (fun A4 f4 => h A4 (((fm.tr fm_tk).tr (fm46 f3)).tr f4))
set_option maxRecDepth 100000 in
set_option maxHeartbeats 400000 in
theorem mt_loop5 (hE : hM E) (hW : WfS S T n z) (hs : s < 4) {y : Nat} (hy : y ≤ 40) (h54 : S 54 s = nI y) (hp : p < n) : ∀ (k i : Nat) (c : Int32) (A : mA), i + k = T → RM A S T → (∀ A', FM A A' → Ph (some (.int (bsF (fun v => ow S v (kdP S p) (nrP S p) s y (anP S p)) k i c))) A' L) → qG E mm_X7_tells (d + 8) 141 [(7, .int (nI i)), (6, .int c), (5, .int (nI T)), (4, .int (anP S p)), (0, .ref 38), (1, .int (nI s)), (2, .int (nI p)), (3, .int 5)] [] A L Ph := by
  have hn := hW.2.2.2.2.1.1
  have hT := hW.2.1
  intro k
  induction k with
  | zero =>
    intro i c A hi hR h
    have hi : i = T := by omega
    rw [hi]
    refine r_iload dX7_tells_141 rfl ?_
    refine r_iload dX7_tells_143 rfl ?_
    refine r_icmp_ge (tgt := 283) dX7_tells_145 (by decide) (fun _ => ?_) (fun hqz => absurd (nI_le (Nat.le_refl _) (by omega)) hqz)
    refine r_iload dX7_tells_283 rfl ?_
    refine r_ireturn dX7_tells_285 rfl rfl ?_
    exact h A FM.rf
  | succ k ih =>
    intro i c A hi hR h
    rw [bsF] at h
    refine r_iload dX7_tells_141 rfl ?_
    refine r_iload dX7_tells_143 rfl ?_
    refine r_icmp_ge (tgt := 283) dX7_tells_145 (by decide) (fun hqz => absurd hqz (nI_ge (show i < T by omega) (by omega))) (fun _ => ?_)
    refine r_aload_n dX7_tells_148 rfl ?_
    refine r_iload_n dX7_tells_149 rfl ?_
    refine r_bipush (v := 7) dX7_tells_150 rfl ?_
    refine r_icmp_ne (tgt := 160) dX7_tells_152 (by decide) (fun _ => ?_) (fun hqz => absurd hqz (by decide))
    refine r_iload_n dX7_tells_160 rfl ?_
    refine r_callV1 dX7_tells_161 lk_X7_97 (ly_38 hE) rfl (Nat.le_of_ble_eq_true rfl) (mo_take hE hW hR hp (fun A1 f1 fm hm => ?_))
    refine r_aload_n dX7_tells_164 rfl ?_
    refine r_iload_n dX7_tells_165 rfl ?_
    refine r_iconst (v := 1) dX7_tells_166 rfl ?_
    refine r_icmp_ne (tgt := 175) dX7_tells_167 (by decide) (fun _ => ?_) (fun hqz => absurd hqz (by decide))
    refine r_aload_n dX7_tells_175 rfl ?_
    refine r_getI dX7_tells_176 fl_X7_200 (ly_38 hE) rfl ?_
    refine r_rw (y := kdP S p) hm.2.2.2.2.2.1 ?_
    refine r_putI dX7_tells_179 fl_X7_200 fp_7_17 (ly_38 hE) rfl rfl rfl ?_
    refine r_aload_n dX7_tells_182 rfl ?_
    refine r_iload_n dX7_tells_183 rfl ?_
    refine r_iconst (v := 2) dX7_tells_184 rfl ?_
    refine r_icmp_ne (tgt := 193) dX7_tells_185 (by decide) (fun _ => ?_) (fun hqz => absurd hqz (by decide))
    refine r_aload_n dX7_tells_193 rfl ?_
    refine r_getI dX7_tells_194 fl_X7_190 (ly_38 hE) rfl ?_
    refine r_rw (y := nrP S p) ((s2_nj (fun _ => by decide)).trans hm.2.2.2.2.2.2.1) ?_
    refine r_putI dX7_tells_197 fl_X7_190 fp_7_18 (ly_38 hE) rfl rfl rfl ?_
    refine r_aload_n dX7_tells_200 rfl ?_
    refine r_iload_n dX7_tells_201 rfl ?_
    refine r_iconst (v := 5) dX7_tells_202 rfl ?_
    refine r_icmp_ne (tgt := 211) dX7_tells_203 (by decide) (fun hqz => absurd (by decide) hqz) (fun _ => ?_)
    refine r_iload dX7_tells_206 rfl ?_
    refine r_goto (tgt := 215) dX7_tells_208 (by decide) ?_
    refine r_putI dX7_tells_215 fl_X7_187 fp_7_19 (ly_38 hE) rfl rfl rfl ?_
    have hm' := hm.tk (kd' := (kdP S p)) (nr' := (nrP S p)) (q := i) (show i < T by omega) (hW.2.2.2.1 i (by omega))
    refine r_iload_n dX7_tells_218 rfl ?_
    refine r_bipush (v := 6) dX7_tells_219 rfl ?_
    refine r_icmp_ne (tgt := 235) dX7_tells_221 (by decide) (fun _ => ?_) (fun hqz => absurd hqz (by decide))
    refine r_iload_n dX7_tells_235 rfl ?_
    refine r_bipush (v := 7) dX7_tells_236 rfl ?_
    refine r_icmp_ne (tgt := 250) dX7_tells_238 (by decide) (fun _ => ?_) (fun hqz => absurd hqz (by decide))
    refine r_iload dX7_tells_250 rfl ?_
    refine r_topi (fun v252 e252 => ?_)
    refine r_istore (loc' := [(8, .int v252), (7, .int (nI i)), (6, .int c), (5, .int (nI T)), (4, .int (anP S p)), (0, .ref 38), (1, .int (nI s)), (2, .int (nI p)), (3, .int 5)]) dX7_tells_252 (by decide) rfl ?_
    refine r_iload dX7_tells_254 rfl ?_
    refine r_aload_n dX7_tells_256 rfl ?_
    refine r_iload_n dX7_tells_257 rfl ?_
    refine r_iload dX7_tells_258 rfl ?_
    refine r_callV2 dX7_tells_260 lk_X7_263 (ly_38 hE) rfl (Nat.le_of_ble_eq_true rfl) (sp_fits hs hy h54 hm' (fun A3 f3 hq => ?_) (fun A3 f3 hq => ?_))
    · refine r_if_eq (tgt := 273) dX7_tells_263 (by decide) (fun hqz => absurd hqz (by decide)) (fun _ => ?_)
      refine r_iconst (v := 1) dX7_tells_266 rfl ?_
      refine r_iload dX7_tells_267 rfl ?_
      refine r_ishl dX7_tells_269 ?_
      refine r_goto (tgt := 274) dX7_tells_270 (by decide) ?_
      refine r_ior dX7_tells_274 ?_
      refine r_topi (fun v275 e275 => ?_)
      refine r_istore (loc' := [(6, .int v275), (8, .int v252), (7, .int (nI i)), (5, .int (nI T)), (4, .int (anP S p)), (0, .ref 38), (1, .int (nI s)), (2, .int (nI p)), (3, .int 5)]) dX7_tells_275 (by decide) rfl ?_
      refine r_iinc (v := (nI (i + 1))) (loc' := [(7, .int (nI (i + 1))), (6, .int v275), (8, .int v252), (5, .int (nI T)), (4, .int (anP S p)), (0, .ref 38), (1, .int (nI s)), (2, .int (nI p)), (3, .int 5)]) dX7_tells_277 rfl ((nI_succ _).symm) (by decide) rfl ?_
      refine r_goto (tgt := 141) dX7_tells_280 (by decide) ?_
      refine qG.pick [0, 1, 3, 4, 5, 6, 7, 8] rfl ?_
      rw [show (c ||| if ow S i (kdP S p) (nrP S p) s y (anP S p) = -1 then sh1 i else 0) = v275 from by subst e275; subst e252; first | (rw [if_pos hq]; rfl) | (rw [if_neg hq]; done)] at h
      exact ih (i + 1) _ A3 (by omega) (hm'.f46 f3).rm (fun A4 f4 => h A4 (((fm.tr fm_tk).tr (fm46 f3)).tr f4))
    · refine r_if_eq (tgt := 273) dX7_tells_263 (by decide) (fun _ => ?_) (fun hqz => absurd (by decide) hqz)
      refine r_iconst (v := 0) dX7_tells_273 rfl ?_
      refine r_ior dX7_tells_274 ?_
      refine r_topi (fun v275 e275 => ?_)
      refine r_istore (loc' := [(6, .int v275), (8, .int v252), (7, .int (nI i)), (5, .int (nI T)), (4, .int (anP S p)), (0, .ref 38), (1, .int (nI s)), (2, .int (nI p)), (3, .int 5)]) dX7_tells_275 (by decide) rfl ?_
      refine r_iinc (v := (nI (i + 1))) (loc' := [(7, .int (nI (i + 1))), (6, .int v275), (8, .int v252), (5, .int (nI T)), (4, .int (anP S p)), (0, .ref 38), (1, .int (nI s)), (2, .int (nI p)), (3, .int 5)]) dX7_tells_277 rfl ((nI_succ _).symm) (by decide) rfl ?_
      refine r_goto (tgt := 141) dX7_tells_280 (by decide) ?_
      refine qG.pick [0, 1, 3, 4, 5, 6, 7, 8] rfl ?_
      rw [show (c ||| if ow S i (kdP S p) (nrP S p) s y (anP S p) = -1 then sh1 i else 0) = v275 from by subst e275; subst e252; first | (rw [if_pos hq]; rfl) | (rw [if_neg hq]; done)] at h
      exact ih (i + 1) _ A3 (by omega) (hm'.f46 f3).rm (fun A4 f4 => h A4 (((fm.tr fm_tk).tr (fm46 f3)).tr f4))
set_option maxRecDepth 100000 in
set_option maxHeartbeats 400000 in
theorem mt_loop6 (hE : hM E) (hW : WfS S T n z) (hs : s < 4) {y : Nat} (hy : y ≤ 40) (h54 : S 54 s = nI y) (hp : p < n) : ∀ (k i : Nat) (c : Int32) (A : mA), i + k = 6 → RM A S T → (∀ A', FM A A' → Ph (some (.int (bsF (fun v => ow S (rF S) (kdP S p) (nrP S p) s y (bwF S (rF S) (kdP S p) (nrP S p) (anP S p) (nI v))) k i c))) A' L) → qG E mm_X7_tells (d + 8) 141 [(7, .int (nI i)), (6, .int c), (5, .int (nI 6)), (4, .int (anP S p)), (0, .ref 38), (1, .int (nI s)), (2, .int (nI p)), (3, .int 6)] [] A L Ph := by
  have hn := hW.2.2.2.2.1.1
  have hT := hW.2.1
  intro k
  induction k with
  | zero =>
    intro i c A hi hR h
    have hi : i = 6 := by omega
    rw [hi]
    refine r_iload dX7_tells_141 rfl ?_
    refine r_iload dX7_tells_143 rfl ?_
    refine r_icmp_ge (tgt := 283) dX7_tells_145 (by decide) (fun _ => ?_) (fun hqz => absurd (nI_le (Nat.le_refl _) (by decide)) hqz)
    refine r_iload dX7_tells_283 rfl ?_
    refine r_ireturn dX7_tells_285 rfl rfl ?_
    exact h A FM.rf
  | succ k ih =>
    intro i c A hi hR h
    rw [bsF] at h
    refine r_iload dX7_tells_141 rfl ?_
    refine r_iload dX7_tells_143 rfl ?_
    refine r_icmp_ge (tgt := 283) dX7_tells_145 (by decide) (fun hqz => absurd hqz (nI_ge (show i < 6 by omega) (by decide))) (fun _ => ?_)
    refine r_aload_n dX7_tells_148 rfl ?_
    refine r_iload_n dX7_tells_149 rfl ?_
    refine r_bipush (v := 7) dX7_tells_150 rfl ?_
    refine r_icmp_ne (tgt := 160) dX7_tells_152 (by decide) (fun _ => ?_) (fun hqz => absurd hqz (by decide))
    refine r_iload_n dX7_tells_160 rfl ?_
    refine r_callV1 dX7_tells_161 lk_X7_97 (ly_38 hE) rfl (Nat.le_of_ble_eq_true rfl) (mo_take hE hW hR hp (fun A1 f1 fm hm => ?_))
    refine r_aload_n dX7_tells_164 rfl ?_
    refine r_iload_n dX7_tells_165 rfl ?_
    refine r_iconst (v := 1) dX7_tells_166 rfl ?_
    refine r_icmp_ne (tgt := 175) dX7_tells_167 (by decide) (fun _ => ?_) (fun hqz => absurd hqz (by decide))
    refine r_aload_n dX7_tells_175 rfl ?_
    refine r_getI dX7_tells_176 fl_X7_200 (ly_38 hE) rfl ?_
    refine r_rw (y := kdP S p) hm.2.2.2.2.2.1 ?_
    refine r_putI dX7_tells_179 fl_X7_200 fp_7_17 (ly_38 hE) rfl rfl rfl ?_
    refine r_aload_n dX7_tells_182 rfl ?_
    refine r_iload_n dX7_tells_183 rfl ?_
    refine r_iconst (v := 2) dX7_tells_184 rfl ?_
    refine r_icmp_ne (tgt := 193) dX7_tells_185 (by decide) (fun _ => ?_) (fun hqz => absurd hqz (by decide))
    refine r_aload_n dX7_tells_193 rfl ?_
    refine r_getI dX7_tells_194 fl_X7_190 (ly_38 hE) rfl ?_
    refine r_rw (y := nrP S p) ((s2_nj (fun _ => by decide)).trans hm.2.2.2.2.2.2.1) ?_
    refine r_putI dX7_tells_197 fl_X7_190 fp_7_18 (ly_38 hE) rfl rfl rfl ?_
    refine r_aload_n dX7_tells_200 rfl ?_
    refine r_iload_n dX7_tells_201 rfl ?_
    refine r_iconst (v := 5) dX7_tells_202 rfl ?_
    refine r_icmp_ne (tgt := 211) dX7_tells_203 (by decide) (fun _ => ?_) (fun hqz => absurd hqz (by decide))
    refine r_aload_n dX7_tells_211 rfl ?_
    refine r_getI dX7_tells_212 fl_X7_187 (ly_38 hE) rfl ?_
    refine r_rw (y := nI (rF S)) ((s2_nj (fun _ => by decide)).trans ((s2_nj (fun _ => by decide)).trans hm.2.2.2.2.2.2.2.1)) ?_
    refine r_putI dX7_tells_215 fl_X7_187 fp_7_19 (ly_38 hE) rfl rfl rfl ?_
    have hm' := hm.tk (kd' := (kdP S p)) (nr' := (nrP S p)) (q := (rF S)) hm.2.2.1 hm.2.2.2.2.1
    refine r_iload_n dX7_tells_218 rfl ?_
    refine r_bipush (v := 6) dX7_tells_219 rfl ?_
    refine r_icmp_ne (tgt := 235) dX7_tells_221 (by decide) (fun hqz => absurd (by decide) hqz) (fun _ => ?_)
    refine r_aload_n dX7_tells_224 rfl ?_
    refine r_iload dX7_tells_225 rfl ?_
    refine r_iload dX7_tells_227 rfl ?_
    refine r_callV2 dX7_tells_229 lk_X7_212 (ly_38 hE) rfl (Nat.le_of_ble_eq_true rfl) (sp_X7_behindWord hm' (fun A2 f2 => ?_))
    have hm' := hm'.f46 f2
    refine r_goto (tgt := 252) dX7_tells_232 (by decide) ?_
    refine r_topi (fun v252 e252 => ?_)
    refine r_istore (loc' := [(8, .int v252), (7, .int (nI i)), (6, .int c), (5, .int (nI 6)), (4, .int (anP S p)), (0, .ref 38), (1, .int (nI s)), (2, .int (nI p)), (3, .int 6)]) dX7_tells_252 (by decide) rfl ?_
    refine r_iload dX7_tells_254 rfl ?_
    refine r_aload_n dX7_tells_256 rfl ?_
    refine r_iload_n dX7_tells_257 rfl ?_
    refine r_iload dX7_tells_258 rfl ?_
    refine r_callV2 dX7_tells_260 lk_X7_263 (ly_38 hE) rfl (Nat.le_of_ble_eq_true rfl) (sp_fits hs hy h54 hm' (fun A3 f3 hq => ?_) (fun A3 f3 hq => ?_))
    · refine r_if_eq (tgt := 273) dX7_tells_263 (by decide) (fun hqz => absurd hqz (by decide)) (fun _ => ?_)
      refine r_iconst (v := 1) dX7_tells_266 rfl ?_
      refine r_iload dX7_tells_267 rfl ?_
      refine r_ishl dX7_tells_269 ?_
      refine r_goto (tgt := 274) dX7_tells_270 (by decide) ?_
      refine r_ior dX7_tells_274 ?_
      refine r_topi (fun v275 e275 => ?_)
      refine r_istore (loc' := [(6, .int v275), (8, .int v252), (7, .int (nI i)), (5, .int (nI 6)), (4, .int (anP S p)), (0, .ref 38), (1, .int (nI s)), (2, .int (nI p)), (3, .int 6)]) dX7_tells_275 (by decide) rfl ?_
      refine r_iinc (v := (nI (i + 1))) (loc' := [(7, .int (nI (i + 1))), (6, .int v275), (8, .int v252), (5, .int (nI 6)), (4, .int (anP S p)), (0, .ref 38), (1, .int (nI s)), (2, .int (nI p)), (3, .int 6)]) dX7_tells_277 rfl ((nI_succ _).symm) (by decide) rfl ?_
      refine r_goto (tgt := 141) dX7_tells_280 (by decide) ?_
      refine qG.pick [0, 1, 3, 4, 5, 6, 7, 8] rfl ?_
      rw [show (c ||| if ow S (rF S) (kdP S p) (nrP S p) s y (bwF S (rF S) (kdP S p) (nrP S p) (anP S p) (nI i)) = -1 then sh1 i else 0) = v275 from by subst e275; subst e252; first | (rw [if_pos hq]; rfl) | (rw [if_neg hq]; done)] at h
      exact ih (i + 1) _ A3 (by omega) (hm'.f46 f3).rm (fun A4 f4 => h A4 (((fm.tr fm_tk).tr ((fm46 f2).tr (fm46 f3))).tr f4))
    · refine r_if_eq (tgt := 273) dX7_tells_263 (by decide) (fun _ => ?_) (fun hqz => absurd (by decide) hqz)
      refine r_iconst (v := 0) dX7_tells_273 rfl ?_
      refine r_ior dX7_tells_274 ?_
      refine r_topi (fun v275 e275 => ?_)
      refine r_istore (loc' := [(6, .int v275), (8, .int v252), (7, .int (nI i)), (5, .int (nI 6)), (4, .int (anP S p)), (0, .ref 38), (1, .int (nI s)), (2, .int (nI p)), (3, .int 6)]) dX7_tells_275 (by decide) rfl ?_
      refine r_iinc (v := (nI (i + 1))) (loc' := [(7, .int (nI (i + 1))), (6, .int v275), (8, .int v252), (5, .int (nI 6)), (4, .int (anP S p)), (0, .ref 38), (1, .int (nI s)), (2, .int (nI p)), (3, .int 6)]) dX7_tells_277 rfl ((nI_succ _).symm) (by decide) rfl ?_
      refine r_goto (tgt := 141) dX7_tells_280 (by decide) ?_
      refine qG.pick [0, 1, 3, 4, 5, 6, 7, 8] rfl ?_
      rw [show (c ||| if ow S (rF S) (kdP S p) (nrP S p) s y (bwF S (rF S) (kdP S p) (nrP S p) (anP S p) (nI i)) = -1 then sh1 i else 0) = v275 from by subst e275; subst e252; first | (rw [if_pos hq]; rfl) | (rw [if_neg hq]; done)] at h
      exact ih (i + 1) _ A3 (by omega) (hm'.f46 f3).rm (fun A4 f4 => h A4 (((fm.tr fm_tk).tr ((fm46 f2).tr (fm46 f3))).tr f4))
set_option maxRecDepth 100000 in
set_option maxHeartbeats 400000 in
theorem mt_loop7 (hE : hM E) (hW : WfS S T n z) (hs : s < 4) {y : Nat} (hy : y ≤ 40) (h54 : S 54 s = nI y) (hp : p < n) : ∀ (k i : Nat) (c : Int32) (A : mA), i + k = n → RM A S T → (∀ A', FM A A' → Ph (some (.int (bsF (fun v => ow S (rF S) (kdP S v) (nrP S v) s y (anP S v)) k i c))) A' L) → qG E mm_X7_tells (d + 8) 141 [(7, .int (nI i)), (6, .int c), (5, .int (nI n)), (4, .int (anP S p)), (0, .ref 38), (1, .int (nI s)), (2, .int (nI p)), (3, .int 7)] [] A L Ph := by
  have hn := hW.2.2.2.2.1.1
  have hT := hW.2.1
  intro k
  induction k with
  | zero =>
    intro i c A hi hR h
    have hi : i = n := by omega
    rw [hi]
    refine r_iload dX7_tells_141 rfl ?_
    refine r_iload dX7_tells_143 rfl ?_
    refine r_icmp_ge (tgt := 283) dX7_tells_145 (by decide) (fun _ => ?_) (fun hqz => absurd (nI_le (Nat.le_refl _) (by omega)) hqz)
    refine r_iload dX7_tells_283 rfl ?_
    refine r_ireturn dX7_tells_285 rfl rfl ?_
    exact h A FM.rf
  | succ k ih =>
    intro i c A hi hR h
    rw [bsF] at h
    refine r_iload dX7_tells_141 rfl ?_
    refine r_iload dX7_tells_143 rfl ?_
    refine r_icmp_ge (tgt := 283) dX7_tells_145 (by decide) (fun hqz => absurd hqz (nI_ge (show i < n by omega) (by omega))) (fun _ => ?_)
    refine r_aload_n dX7_tells_148 rfl ?_
    refine r_iload_n dX7_tells_149 rfl ?_
    refine r_bipush (v := 7) dX7_tells_150 rfl ?_
    refine r_icmp_ne (tgt := 160) dX7_tells_152 (by decide) (fun hqz => absurd (by decide) hqz) (fun _ => ?_)
    refine r_iload dX7_tells_155 rfl ?_
    refine r_goto (tgt := 161) dX7_tells_157 (by decide) ?_
    refine r_callV1 dX7_tells_161 lk_X7_97 (ly_38 hE) rfl (Nat.le_of_ble_eq_true rfl) (mo_take hE hW hR (show i < n by omega) (fun A1 f1 fm hm => ?_))
    refine r_aload_n dX7_tells_164 rfl ?_
    refine r_iload_n dX7_tells_165 rfl ?_
    refine r_iconst (v := 1) dX7_tells_166 rfl ?_
    refine r_icmp_ne (tgt := 175) dX7_tells_167 (by decide) (fun _ => ?_) (fun hqz => absurd hqz (by decide))
    refine r_aload_n dX7_tells_175 rfl ?_
    refine r_getI dX7_tells_176 fl_X7_200 (ly_38 hE) rfl ?_
    refine r_rw (y := kdP S i) hm.2.2.2.2.2.1 ?_
    refine r_putI dX7_tells_179 fl_X7_200 fp_7_17 (ly_38 hE) rfl rfl rfl ?_
    refine r_aload_n dX7_tells_182 rfl ?_
    refine r_iload_n dX7_tells_183 rfl ?_
    refine r_iconst (v := 2) dX7_tells_184 rfl ?_
    refine r_icmp_ne (tgt := 193) dX7_tells_185 (by decide) (fun _ => ?_) (fun hqz => absurd hqz (by decide))
    refine r_aload_n dX7_tells_193 rfl ?_
    refine r_getI dX7_tells_194 fl_X7_190 (ly_38 hE) rfl ?_
    refine r_rw (y := nrP S i) ((s2_nj (fun _ => by decide)).trans hm.2.2.2.2.2.2.1) ?_
    refine r_putI dX7_tells_197 fl_X7_190 fp_7_18 (ly_38 hE) rfl rfl rfl ?_
    refine r_aload_n dX7_tells_200 rfl ?_
    refine r_iload_n dX7_tells_201 rfl ?_
    refine r_iconst (v := 5) dX7_tells_202 rfl ?_
    refine r_icmp_ne (tgt := 211) dX7_tells_203 (by decide) (fun _ => ?_) (fun hqz => absurd hqz (by decide))
    refine r_aload_n dX7_tells_211 rfl ?_
    refine r_getI dX7_tells_212 fl_X7_187 (ly_38 hE) rfl ?_
    refine r_rw (y := nI (rF S)) ((s2_nj (fun _ => by decide)).trans ((s2_nj (fun _ => by decide)).trans hm.2.2.2.2.2.2.2.1)) ?_
    refine r_putI dX7_tells_215 fl_X7_187 fp_7_19 (ly_38 hE) rfl rfl rfl ?_
    have hm' := hm.tk (kd' := (kdP S i)) (nr' := (nrP S i)) (q := (rF S)) hm.2.2.1 hm.2.2.2.2.1
    refine r_iload_n dX7_tells_218 rfl ?_
    refine r_bipush (v := 6) dX7_tells_219 rfl ?_
    refine r_icmp_ne (tgt := 235) dX7_tells_221 (by decide) (fun _ => ?_) (fun hqz => absurd hqz (by decide))
    refine r_iload_n dX7_tells_235 rfl ?_
    refine r_bipush (v := 7) dX7_tells_236 rfl ?_
    refine r_icmp_ne (tgt := 250) dX7_tells_238 (by decide) (fun hqz => absurd (by decide) hqz) (fun _ => ?_)
    refine r_aload_n dX7_tells_241 rfl ?_
    refine r_iload dX7_tells_242 rfl ?_
    refine r_callV1 dX7_tells_244 lk_X7_101 (ly_38 hE) rfl (Nat.le_of_ble_eq_true rfl) (mo_an hE hW hm'.rm (show i < n by omega) ?_)
    refine r_goto (tgt := 252) dX7_tells_247 (by decide) ?_
    refine r_topi (fun v252 e252 => ?_)
    refine r_istore (loc' := [(8, .int v252), (7, .int (nI i)), (6, .int c), (5, .int (nI n)), (4, .int (anP S p)), (0, .ref 38), (1, .int (nI s)), (2, .int (nI p)), (3, .int 7)]) dX7_tells_252 (by decide) rfl ?_
    refine r_iload dX7_tells_254 rfl ?_
    refine r_aload_n dX7_tells_256 rfl ?_
    refine r_iload_n dX7_tells_257 rfl ?_
    refine r_iload dX7_tells_258 rfl ?_
    refine r_callV2 dX7_tells_260 lk_X7_263 (ly_38 hE) rfl (Nat.le_of_ble_eq_true rfl) (sp_fits hs hy h54 hm' (fun A3 f3 hq => ?_) (fun A3 f3 hq => ?_))
    · refine r_if_eq (tgt := 273) dX7_tells_263 (by decide) (fun hqz => absurd hqz (by decide)) (fun _ => ?_)
      refine r_iconst (v := 1) dX7_tells_266 rfl ?_
      refine r_iload dX7_tells_267 rfl ?_
      refine r_ishl dX7_tells_269 ?_
      refine r_goto (tgt := 274) dX7_tells_270 (by decide) ?_
      refine r_ior dX7_tells_274 ?_
      refine r_topi (fun v275 e275 => ?_)
      refine r_istore (loc' := [(6, .int v275), (8, .int v252), (7, .int (nI i)), (5, .int (nI n)), (4, .int (anP S p)), (0, .ref 38), (1, .int (nI s)), (2, .int (nI p)), (3, .int 7)]) dX7_tells_275 (by decide) rfl ?_
      refine r_iinc (v := (nI (i + 1))) (loc' := [(7, .int (nI (i + 1))), (6, .int v275), (8, .int v252), (5, .int (nI n)), (4, .int (anP S p)), (0, .ref 38), (1, .int (nI s)), (2, .int (nI p)), (3, .int 7)]) dX7_tells_277 rfl ((nI_succ _).symm) (by decide) rfl ?_
      refine r_goto (tgt := 141) dX7_tells_280 (by decide) ?_
      refine qG.pick [0, 1, 3, 4, 5, 6, 7, 8] rfl ?_
      rw [show (c ||| if ow S (rF S) (kdP S i) (nrP S i) s y (anP S i) = -1 then sh1 i else 0) = v275 from by subst e275; subst e252; first | (rw [if_pos hq]; rfl) | (rw [if_neg hq]; done)] at h
      exact ih (i + 1) _ A3 (by omega) (hm'.f46 f3).rm (fun A4 f4 => h A4 (((fm.tr fm_tk).tr (fm46 f3)).tr f4))
    · refine r_if_eq (tgt := 273) dX7_tells_263 (by decide) (fun _ => ?_) (fun hqz => absurd (by decide) hqz)
      refine r_iconst (v := 0) dX7_tells_273 rfl ?_
      refine r_ior dX7_tells_274 ?_
      refine r_topi (fun v275 e275 => ?_)
      refine r_istore (loc' := [(6, .int v275), (8, .int v252), (7, .int (nI i)), (5, .int (nI n)), (4, .int (anP S p)), (0, .ref 38), (1, .int (nI s)), (2, .int (nI p)), (3, .int 7)]) dX7_tells_275 (by decide) rfl ?_
      refine r_iinc (v := (nI (i + 1))) (loc' := [(7, .int (nI (i + 1))), (6, .int v275), (8, .int v252), (5, .int (nI n)), (4, .int (anP S p)), (0, .ref 38), (1, .int (nI s)), (2, .int (nI p)), (3, .int 7)]) dX7_tells_277 rfl ((nI_succ _).symm) (by decide) rfl ?_
      refine r_goto (tgt := 141) dX7_tells_280 (by decide) ?_
      refine qG.pick [0, 1, 3, 4, 5, 6, 7, 8] rfl ?_
      rw [show (c ||| if ow S (rF S) (kdP S i) (nrP S i) s y (anP S i) = -1 then sh1 i else 0) = v275 from by subst e275; subst e252; first | (rw [if_pos hq]; rfl) | (rw [if_neg hq]; done)] at h
      exact ih (i + 1) _ A3 (by omega) (hm'.f46 f3).rm (fun A4 f4 => h A4 (((fm.tr fm_tk).tr (fm46 f3)).tr f4))
set_option maxRecDepth 100000 in
set_option maxHeartbeats 400000 in
theorem op_tells (hE : hM E) (hW : WfS S T n z) (sv pv wv : Int32) : OpOK E (d + 8) mm_X6_tells mm_X7_tells [.int sv, .int pv, .int wv] S T n z := by
  have hEc := hE.c
  have hN := hW.2.2.2.2.1
  have hn := hN.1
  have h60 := hN.2.1
  have hT := hW.2.1
  by_cases hb : (∃ s, s < 4 ∧ sv = nI s) ∧ (∃ p, p < n ∧ pv = nI p) ∧ ∃ w, w < 8 ∧ wv = nI w
  · obtain ⟨⟨s, hs, rfl⟩, ⟨p, hp, rfl⟩, ⟨w, hw, rfl⟩⟩ := hb
    obtain ⟨-, y, hy, e54⟩ := hW.2.2.2.2.2.2.2 s hs
    by_cases m1 : S 53 s = -1
    · refine ⟨.int (-11), S, T, n, z, ⟨_, rfl⟩, hW, fun A L Ph hR hk => ?_, fun A L Ph hR hk => ?_⟩
      · have K := hk A L hR (fun _ _ => rfl)

        refine qC.enter (by decide) (Nat.le_of_ble_eq_true rfl) ?_
        refine r_iload_n dX6_tells_0 rfl ?_
        refine r_iconst (v := 4) dX6_tells_1 rfl ?_
        refine r_callS2 dX6_tells_2 lk_X6_100 (Nat.le_of_ble_eq_true rfl) (win_t (lim := 4) rfl (by decide) hs ?_)
        refine r_if_eq (tgt := 28) dX6_tells_5 (by decide) (fun hqz => absurd hqz (by decide)) (fun _ => ?_)
        refine r_aload_n dX6_tells_8 rfl ?_
        refine r_getR dX6_tells_9 fl_X6_10 (ly_0 hEc) rfl ?_
        refine r_iload_n dX6_tells_12 rfl ?_
        refine r_callV1 dX6_tells_13 lk_X6_125 (ly_1 hEc) rfl (Nat.le_of_ble_eq_true rfl) (has_t hEc hn (hR.1.2.2.1.trans h60) hp ?_)
        refine r_if_eq (tgt := 28) dX6_tells_16 (by decide) (fun hqz => absurd hqz (by decide)) (fun _ => ?_)
        refine r_iload_n dX6_tells_19 rfl ?_
        refine r_bipush (v := 8) dX6_tells_20 rfl ?_
        refine r_callS2 dX6_tells_22 lk_X6_100 (Nat.le_of_ble_eq_true rfl) (win_t (lim := 8) rfl (by decide) hw ?_)
        refine r_if_ne (tgt := 31) dX6_tells_25 (by decide) (fun _ => ?_) (fun hqz => absurd hqz (by decide))
        refine r_aload_n dX6_tells_31 rfl ?_
        refine r_getR dX6_tells_32 fl_X6_52 (ly_0 hEc) rfl ?_
        refine r_iload_n dX6_tells_35 rfl ?_
        refine r_aaldN dX6_tells_36 (ly_7 hEc) (show s < 4 by omega) (by decide) (ly_7r (by omega)) ?_
        refine r_astore (loc' := [(4, .ref (8 + s)), (0, .ref 0), (1, .int (nI s)), (2, .int (nI p)), (3, .int (nI w))]) dX6_tells_37 (by decide) rfl ?_
        refine r_aload dX6_tells_39 rfl ?_
        refine r_callV0 dX6_tells_41 lk_X6_246 (ly_sh hEc hs) rfl (Nat.le_of_ble_eq_true rfl) (mis_t hEc hs ((hR.2.2.2.2.2 s hs).1.trans m1) ?_)
        refine r_if_eq (tgt := 50) dX6_tells_44 (by decide) (fun hqz => absurd hqz (by decide)) (fun _ => ?_)
        refine r_bipush (v := (-11)) dX6_tells_47 rfl ?_
        refine r_ireturn dX6_tells_49 rfl rfl ?_
        exact K
      · have K := hk A L hR (fun _ _ => rfl)
        have r53 := hR.2.2.2.2.2.2.2.2.1
        refine qC.enter (by decide) (Nat.le_of_ble_eq_true rfl) ?_
        refine r_iload_n dX7_tells_0 rfl ?_
        refine r_callS1 dX7_tells_1 lk_X7_254 (Nat.le_of_ble_eq_true rfl) (iss_t hE hs ?_)
        refine r_if_eq (tgt := 25) dX7_tells_4 (by decide) (fun hqz => absurd hqz (by decide)) (fun _ => ?_)
        refine r_aload_n dX7_tells_7 rfl ?_
        refine r_iload_n dX7_tells_8 rfl ?_
        refine r_callV1 dX7_tells_9 lk_X7_82 (ly_38 hE) rfl (Nat.le_of_ble_eq_true rfl) (isP_t hE hn (by rw [hR.1]; exact h60) hp ?_)
        refine r_if_eq (tgt := 25) dX7_tells_12 (by decide) (fun hqz => absurd hqz (by decide)) (fun _ => ?_)
        refine r_iload_n dX7_tells_15 rfl ?_
        refine r_iconst (v := 0) dX7_tells_16 rfl ?_
        refine r_bipush (v := 7) dX7_tells_17 rfl ?_
        refine r_callS3 dX7_tells_19 lk_X7_78 (Nat.le_of_ble_eq_true rfl) (in_t (lim := 8) rfl rfl (by decide) hw ?_)
        refine r_if_ne (tgt := 28) dX7_tells_22 (by decide) (fun _ => ?_) (fun hqz => absurd hqz (by decide))
        refine r_aload_n dX7_tells_28 rfl ?_
        refine r_getR dX7_tells_29 fl_X7_63 (ly_38 hE) rfl ?_
        refine r_iload_n dX7_tells_32 rfl ?_
        refine r_ialdN dX7_tells_33 (ly_53 hE) (by omega) (by decide) ?_
        refine r_iconst (v := (-1)) dX7_tells_34 rfl ?_
        refine r_icmp_ne (tgt := 41) dX7_tells_35 (by decide) (fun hqz => absurd (by rw [r53]; exact m1) hqz) (fun _ => ?_)
        refine r_bipush (v := (-11)) dX7_tells_38 rfl ?_
        refine r_ireturn dX7_tells_40 rfl rfl ?_
        exact K
    · obtain ⟨N, hN⟩ : ∃ N : Nat, N = 100 := ⟨_, rfl⟩
      have hcm : ∀ (v : Int32) (wv : Int32), (∀ (A : mA) (L : mJ) (Ph : mP), RC A S T n z → SH A S s y → A (8 + s) 1 = S 53 s → (∀ A', RC A' S T n z → (∀ k, 38 ≤ k → A' k = A k) → Ph (some (.int v)) A' L) → qC E mm_X6_tells (d + 8) [.ref 0, .int (nI s), .int (nI p), .int wv] A L Ph) → (∀ (A : mA) (L : mJ) (Ph : mP), RM A S T → A 53 = S 53 → (∀ A', FM A A' → Ph (some (.int v)) A' L) → qC E mm_X7_tells (d + 8) [.ref 38, .int (nI s), .int (nI p), .int wv] A L Ph) → OpOK E (d + 8) mm_X6_tells mm_X7_tells [.int (nI s), .int (nI p), .int wv] S T n z := fun v wv h1 h2 => ⟨.int v, S, T, n, z, ⟨_, rfl⟩, hW, fun A L Ph hR hk => h1 A L Ph hR ⟨(hR.2.2.2.2.2 s hs).2.1.trans e54, (hR.2.2.2.2.2 s hs).2.2⟩ (hR.2.2.2.2.2 s hs).1 (fun A' a b => hk A' L a b), fun A L Ph hR hk => h2 A L Ph hR hR.2.2.2.2.2.2.2.2.1 (fun A' f => hk A' L (hR.fm f) f.lo)⟩
      rcases (show w = 0 ∨ w = 1 ∨ w = 2 ∨ w = 3 ∨ w = 4 ∨ w = 5 ∨ w = 6 ∨ w = 7 by omega) with rfl | rfl | rfl | rfl | rfl | rfl | rfl | rfl
      · refine hcm (ow S (rF S) (kdP S p) (nrP S p) s y (anP S p)) 0 (fun A L Ph hR hh e1 hk => ?_) (fun A L Ph hR r53 hk => ?_)
        · skip
          refine qC.enter (by decide) (Nat.le_of_ble_eq_true rfl) ?_
          refine r_iload_n dX6_tells_0 rfl ?_
          refine r_iconst (v := 4) dX6_tells_1 rfl ?_
          refine r_callS2 dX6_tells_2 lk_X6_100 (Nat.le_of_ble_eq_true rfl) (win_t (lim := 4) rfl (by decide) hs ?_)
          refine r_if_eq (tgt := 28) dX6_tells_5 (by decide) (fun hqz => absurd hqz (by decide)) (fun _ => ?_)
          refine r_aload_n dX6_tells_8 rfl ?_
          refine r_getR dX6_tells_9 fl_X6_10 (ly_0 hEc) rfl ?_
          refine r_iload_n dX6_tells_12 rfl ?_
          refine r_callV1 dX6_tells_13 lk_X6_125 (ly_1 hEc) rfl (Nat.le_of_ble_eq_true rfl) (has_t hEc hn (hR.1.2.2.1.trans h60) hp ?_)
          refine r_if_eq (tgt := 28) dX6_tells_16 (by decide) (fun hqz => absurd hqz (by decide)) (fun _ => ?_)
          refine r_iload_n dX6_tells_19 rfl ?_
          refine r_bipush (v := 8) dX6_tells_20 rfl ?_
          refine r_callS2 dX6_tells_22 lk_X6_100 (Nat.le_of_ble_eq_true rfl) (win_t (j := 0) (lim := 8) rfl (by decide) (by decide) ?_)
          refine r_if_ne (tgt := 31) dX6_tells_25 (by decide) (fun _ => ?_) (fun hqz => absurd hqz (by decide))
          refine r_aload_n dX6_tells_31 rfl ?_
          refine r_getR dX6_tells_32 fl_X6_52 (ly_0 hEc) rfl ?_
          refine r_iload_n dX6_tells_35 rfl ?_
          refine r_aaldN dX6_tells_36 (ly_7 hEc) (show s < 4 by omega) (by decide) (ly_7r (by omega)) ?_
          refine r_astore (loc' := [(4, .ref (8 + s)), (0, .ref 0), (1, .int (nI s)), (2, .int (nI p)), (3, .int 0)]) dX6_tells_37 (by decide) rfl ?_
          refine r_aload dX6_tells_39 rfl ?_
          refine r_callV0 dX6_tells_41 lk_X6_246 (ly_sh hEc hs) rfl (Nat.le_of_ble_eq_true rfl) (mis_f hEc hs (by rw [e1]; exact m1) ?_)
          refine r_if_eq (tgt := 50) dX6_tells_44 (by decide) (fun _ => ?_) (fun hqz => absurd (by decide) hqz)
          refine r_aload_n dX6_tells_50 rfl ?_
          refine r_getR dX6_tells_51 fl_X6_38 (ly_0 hEc) rfl ?_
          refine r_aload_n dX6_tells_54 rfl ?_
          refine r_getR dX6_tells_55 fl_X6_10 (ly_0 hEc) rfl ?_
          refine r_iload_n dX6_tells_58 rfl ?_
          refine r_callV2 dX6_tells_59 lk_X6_128 (ly_5 hEc) rfl (Nat.le_of_ble_eq_true rfl) (co_of hEc hW hR hp (fun A1 f1 hc hR1 => ?_))
          refine r_aload_n dX6_tells_62 rfl ?_
          refine r_getR dX6_tells_63 fl_X6_10 (ly_0 hEc) rfl ?_
          refine r_iload_n dX6_tells_66 rfl ?_
          refine r_callV1 dX6_tells_67 lk_X6_132 (ly_1 hEc) rfl (Nat.le_of_ble_eq_true rfl) (co_an hEc hW hR1 hp ?_)
          have hh1 := hh.fr hs (f1.mo (by decide))
          refine r_topi (fun v70 e70 => ?_)
          refine r_istore (loc' := [(5, .int v70), (4, .ref (8 + s)), (0, .ref 0), (1, .int (nI s)), (2, .int (nI p)), (3, .int 0)]) dX6_tells_70 (by decide) rfl ?_
          refine r_iload_n dX6_tells_72 rfl ?_
          refine r_tableIn (off := 43) (tgt := 116) dX6_tells_73 (by decide) (by decide) rfl (by decide) ?_
          refine r_aload_n dX6_tells_116 rfl ?_
          refine r_aload dX6_tells_117 rfl ?_
          refine r_iload dX6_tells_119 rfl ?_
          refine r_callV2 dX6_tells_121 lk_X6_250 (ly_0 hEc) rfl (Nat.le_of_ble_eq_true rfl) (sp_first hs hy hc hh1 (fun A2 f2 => ?_))
          refine r_ireturn dX6_tells_124 rfl rfl ?_
          subst e70
          exact hk A2 (hR1.fr f2.c) (hi2 (f526 f1) (Fr.hi f2.t (by decide)))
        · skip
          refine qC.enter (by decide) (Nat.le_of_ble_eq_true rfl) ?_
          refine r_iload_n dX7_tells_0 rfl ?_
          refine r_callS1 dX7_tells_1 lk_X7_254 (Nat.le_of_ble_eq_true rfl) (iss_t hE hs ?_)
          refine r_if_eq (tgt := 25) dX7_tells_4 (by decide) (fun hqz => absurd hqz (by decide)) (fun _ => ?_)
          refine r_aload_n dX7_tells_7 rfl ?_
          refine r_iload_n dX7_tells_8 rfl ?_
          refine r_callV1 dX7_tells_9 lk_X7_82 (ly_38 hE) rfl (Nat.le_of_ble_eq_true rfl) (isP_t hE hn (by rw [hR.1]; exact h60) hp ?_)
          refine r_if_eq (tgt := 25) dX7_tells_12 (by decide) (fun hqz => absurd hqz (by decide)) (fun _ => ?_)
          refine r_iload_n dX7_tells_15 rfl ?_
          refine r_iconst (v := 0) dX7_tells_16 rfl ?_
          refine r_bipush (v := 7) dX7_tells_17 rfl ?_
          refine r_callS3 dX7_tells_19 lk_X7_78 (Nat.le_of_ble_eq_true rfl) (in_t (j := 0) (lim := 8) rfl rfl (by decide) (by decide) ?_)
          refine r_if_ne (tgt := 28) dX7_tells_22 (by decide) (fun _ => ?_) (fun hqz => absurd hqz (by decide))
          refine r_aload_n dX7_tells_28 rfl ?_
          refine r_getR dX7_tells_29 fl_X7_63 (ly_38 hE) rfl ?_
          refine r_iload_n dX7_tells_32 rfl ?_
          refine r_ialdN dX7_tells_33 (ly_53 hE) (by omega) (by decide) ?_
          refine r_iconst (v := (-1)) dX7_tells_34 rfl ?_
          refine r_icmp_ne (tgt := 41) dX7_tells_35 (by decide) (fun _ => ?_) (fun hqz => absurd hqz (by rw [r53]; exact m1))
          refine r_aload_n dX7_tells_41 rfl ?_
          refine r_iload_n dX7_tells_42 rfl ?_
          refine r_callV1 dX7_tells_43 lk_X7_97 (ly_38 hE) rfl (Nat.le_of_ble_eq_true rfl) (mo_take hE hW hR hp (fun A1 f1 fm hm => ?_))
          refine r_aload_n dX7_tells_46 rfl ?_
          refine r_iload_n dX7_tells_47 rfl ?_
          refine r_callV1 dX7_tells_48 lk_X7_101 (ly_38 hE) rfl (Nat.le_of_ble_eq_true rfl) (mo_an hE hW hm.rm hp ?_)
          refine r_topi (fun v51 e51 => ?_)
          refine r_istore (loc' := [(4, .int v51), (0, .ref 38), (1, .int (nI s)), (2, .int (nI p)), (3, .int 0)]) dX7_tells_51 (by decide) rfl ?_
          refine r_iload_n dX7_tells_53 rfl ?_
          refine r_if_ne (tgt := 65) dX7_tells_54 (by decide) (fun hqz => absurd (by decide) hqz) (fun _ => ?_)
          refine r_aload_n dX7_tells_57 rfl ?_
          refine r_iload_n dX7_tells_58 rfl ?_
          refine r_iload dX7_tells_59 rfl ?_
          refine r_callV2 dX7_tells_61 lk_X7_260 (ly_38 hE) rfl (Nat.le_of_ble_eq_true rfl) (sp_other hs hy e54 hm (fun A2 f2 => ?_))
          refine r_ireturn dX7_tells_64 rfl rfl ?_
          subst e51
          exact hk A2 (fm.tr (fm46 f2))
      · refine hcm (bsF (fun v => ow S (rF S) (nI v) (nrP S p) s y (anP S p)) 6 0 0) 1 (fun A L Ph hR hh e1 hk => ?_) (fun A L Ph hR r53 hk => ?_)
        · skip
          refine qC.enter (by decide) (Nat.le_of_ble_eq_true rfl) ?_
          refine r_iload_n dX6_tells_0 rfl ?_
          refine r_iconst (v := 4) dX6_tells_1 rfl ?_
          refine r_callS2 dX6_tells_2 lk_X6_100 (Nat.le_of_ble_eq_true rfl) (win_t (lim := 4) rfl (by decide) hs ?_)
          refine r_if_eq (tgt := 28) dX6_tells_5 (by decide) (fun hqz => absurd hqz (by decide)) (fun _ => ?_)
          refine r_aload_n dX6_tells_8 rfl ?_
          refine r_getR dX6_tells_9 fl_X6_10 (ly_0 hEc) rfl ?_
          refine r_iload_n dX6_tells_12 rfl ?_
          refine r_callV1 dX6_tells_13 lk_X6_125 (ly_1 hEc) rfl (Nat.le_of_ble_eq_true rfl) (has_t hEc hn (hR.1.2.2.1.trans h60) hp ?_)
          refine r_if_eq (tgt := 28) dX6_tells_16 (by decide) (fun hqz => absurd hqz (by decide)) (fun _ => ?_)
          refine r_iload_n dX6_tells_19 rfl ?_
          refine r_bipush (v := 8) dX6_tells_20 rfl ?_
          refine r_callS2 dX6_tells_22 lk_X6_100 (Nat.le_of_ble_eq_true rfl) (win_t (j := 1) (lim := 8) rfl (by decide) (by decide) ?_)
          refine r_if_ne (tgt := 31) dX6_tells_25 (by decide) (fun _ => ?_) (fun hqz => absurd hqz (by decide))
          refine r_aload_n dX6_tells_31 rfl ?_
          refine r_getR dX6_tells_32 fl_X6_52 (ly_0 hEc) rfl ?_
          refine r_iload_n dX6_tells_35 rfl ?_
          refine r_aaldN dX6_tells_36 (ly_7 hEc) (show s < 4 by omega) (by decide) (ly_7r (by omega)) ?_
          refine r_astore (loc' := [(4, .ref (8 + s)), (0, .ref 0), (1, .int (nI s)), (2, .int (nI p)), (3, .int 1)]) dX6_tells_37 (by decide) rfl ?_
          refine r_aload dX6_tells_39 rfl ?_
          refine r_callV0 dX6_tells_41 lk_X6_246 (ly_sh hEc hs) rfl (Nat.le_of_ble_eq_true rfl) (mis_f hEc hs (by rw [e1]; exact m1) ?_)
          refine r_if_eq (tgt := 50) dX6_tells_44 (by decide) (fun _ => ?_) (fun hqz => absurd (by decide) hqz)
          refine r_aload_n dX6_tells_50 rfl ?_
          refine r_getR dX6_tells_51 fl_X6_38 (ly_0 hEc) rfl ?_
          refine r_aload_n dX6_tells_54 rfl ?_
          refine r_getR dX6_tells_55 fl_X6_10 (ly_0 hEc) rfl ?_
          refine r_iload_n dX6_tells_58 rfl ?_
          refine r_callV2 dX6_tells_59 lk_X6_128 (ly_5 hEc) rfl (Nat.le_of_ble_eq_true rfl) (co_of hEc hW hR hp (fun A1 f1 hc hR1 => ?_))
          refine r_aload_n dX6_tells_62 rfl ?_
          refine r_getR dX6_tells_63 fl_X6_10 (ly_0 hEc) rfl ?_
          refine r_iload_n dX6_tells_66 rfl ?_
          refine r_callV1 dX6_tells_67 lk_X6_132 (ly_1 hEc) rfl (Nat.le_of_ble_eq_true rfl) (co_an hEc hW hR1 hp ?_)
          have hh1 := hh.fr hs (f1.mo (by decide))
          refine r_topi (fun v70 e70 => ?_)
          refine r_istore (loc' := [(5, .int v70), (4, .ref (8 + s)), (0, .ref 0), (1, .int (nI s)), (2, .int (nI p)), (3, .int 1)]) dX6_tells_70 (by decide) rfl ?_
          refine r_iload_n dX6_tells_72 rfl ?_
          refine r_tableIn (off := 52) (tgt := 125) dX6_tells_73 (by decide) (by decide) rfl (by decide) ?_
          refine r_aload_n dX6_tells_125 rfl ?_
          refine r_aload dX6_tells_126 rfl ?_
          refine r_iload dX6_tells_128 rfl ?_
          refine r_callV2 dX6_tells_130 lk_X6_254 (ly_0 hEc) rfl (Nat.le_of_ble_eq_true rfl) (sp_fk hs hy hc hh1 (fun A2 f2 => ?_))
          refine r_ireturn dX6_tells_133 rfl rfl ?_
          subst e70
          exact hk A2 (hR1.fr (f2.mo (by decide))) (hi2 (f526 f1) (Fr.hi f2 (by decide)))
        · skip
          refine qC.enter (by decide) (Nat.le_of_ble_eq_true rfl) ?_
          refine r_iload_n dX7_tells_0 rfl ?_
          refine r_callS1 dX7_tells_1 lk_X7_254 (Nat.le_of_ble_eq_true rfl) (iss_t hE hs ?_)
          refine r_if_eq (tgt := 25) dX7_tells_4 (by decide) (fun hqz => absurd hqz (by decide)) (fun _ => ?_)
          refine r_aload_n dX7_tells_7 rfl ?_
          refine r_iload_n dX7_tells_8 rfl ?_
          refine r_callV1 dX7_tells_9 lk_X7_82 (ly_38 hE) rfl (Nat.le_of_ble_eq_true rfl) (isP_t hE hn (by rw [hR.1]; exact h60) hp ?_)
          refine r_if_eq (tgt := 25) dX7_tells_12 (by decide) (fun hqz => absurd hqz (by decide)) (fun _ => ?_)
          refine r_iload_n dX7_tells_15 rfl ?_
          refine r_iconst (v := 0) dX7_tells_16 rfl ?_
          refine r_bipush (v := 7) dX7_tells_17 rfl ?_
          refine r_callS3 dX7_tells_19 lk_X7_78 (Nat.le_of_ble_eq_true rfl) (in_t (j := 1) (lim := 8) rfl rfl (by decide) (by decide) ?_)
          refine r_if_ne (tgt := 28) dX7_tells_22 (by decide) (fun _ => ?_) (fun hqz => absurd hqz (by decide))
          refine r_aload_n dX7_tells_28 rfl ?_
          refine r_getR dX7_tells_29 fl_X7_63 (ly_38 hE) rfl ?_
          refine r_iload_n dX7_tells_32 rfl ?_
          refine r_ialdN dX7_tells_33 (ly_53 hE) (by omega) (by decide) ?_
          refine r_iconst (v := (-1)) dX7_tells_34 rfl ?_
          refine r_icmp_ne (tgt := 41) dX7_tells_35 (by decide) (fun _ => ?_) (fun hqz => absurd hqz (by rw [r53]; exact m1))
          refine r_aload_n dX7_tells_41 rfl ?_
          refine r_iload_n dX7_tells_42 rfl ?_
          refine r_callV1 dX7_tells_43 lk_X7_97 (ly_38 hE) rfl (Nat.le_of_ble_eq_true rfl) (mo_take hE hW hR hp (fun A1 f1 fm hm => ?_))
          refine r_aload_n dX7_tells_46 rfl ?_
          refine r_iload_n dX7_tells_47 rfl ?_
          refine r_callV1 dX7_tells_48 lk_X7_101 (ly_38 hE) rfl (Nat.le_of_ble_eq_true rfl) (mo_an hE hW hm.rm hp ?_)
          refine r_topi (fun v51 e51 => ?_)
          refine r_istore (loc' := [(4, .int v51), (0, .ref 38), (1, .int (nI s)), (2, .int (nI p)), (3, .int 1)]) dX7_tells_51 (by decide) rfl ?_
          refine r_iload_n dX7_tells_53 rfl ?_
          refine r_if_ne (tgt := 65) dX7_tells_54 (by decide) (fun _ => ?_) (fun hqz => absurd hqz (by decide))
          refine r_iload_n dX7_tells_65 rfl ?_
          refine r_iconst (v := 3) dX7_tells_66 rfl ?_
          refine r_icmp_eq (tgt := 75) dX7_tells_67 (by decide) (fun hqz => absurd hqz (by decide)) (fun _ => ?_)
          refine r_iload_n dX7_tells_70 rfl ?_
          refine r_iconst (v := 4) dX7_tells_71 rfl ?_
          refine r_icmp_ne (tgt := 91) dX7_tells_72 (by decide) (fun _ => ?_) (fun hqz => absurd hqz (by decide))
          refine r_iload_n dX7_tells_91 rfl ?_
          refine r_iconst (v := 1) dX7_tells_92 rfl ?_
          refine r_icmp_eq (tgt := 102) dX7_tells_93 (by decide) (fun _ => ?_) (fun hqz => absurd (by decide) hqz)
          refine r_bipush (v := 6) dX7_tells_102 rfl ?_
          refine r_goto (tgt := 133) dX7_tells_104 (by decide) ?_
          refine r_rw (y := nI 6) rfl ?_
          refine r_istore (loc' := [(5, .int 6), (4, .int v51), (0, .ref 38), (1, .int (nI s)), (2, .int (nI p)), (3, .int 1)]) dX7_tells_133 (by decide) rfl ?_
          refine r_iconst (v := 0) dX7_tells_135 rfl ?_
          refine r_istore (loc' := [(6, .int 0), (5, .int 6), (4, .int v51), (0, .ref 38), (1, .int (nI s)), (2, .int (nI p)), (3, .int 1)]) dX7_tells_136 (by decide) rfl ?_
          refine r_iconst (v := 0) dX7_tells_138 rfl ?_
          refine r_istore (loc' := [(7, .int 0), (6, .int 0), (5, .int 6), (4, .int v51), (0, .ref 38), (1, .int (nI s)), (2, .int (nI p)), (3, .int 1)]) dX7_tells_139 (by decide) rfl ?_
          refine qG.pick [0, 1, 2, 3, 4, 5, 6, 7] rfl ?_
          subst e51
          exact mt_loop1 hE hW hs hy e54 hp 6 0 0 A1 (by omega) hm.rm (fun A2 f2 => hk A2 (fm.tr f2))
      · refine hcm (bsF (fun v => ow S (rF S) (kdP S p) (nI v) s y (anP S p)) 10 0 0) 2 (fun A L Ph hR hh e1 hk => ?_) (fun A L Ph hR r53 hk => ?_)
        · skip
          refine qC.enter (by decide) (Nat.le_of_ble_eq_true rfl) ?_
          refine r_iload_n dX6_tells_0 rfl ?_
          refine r_iconst (v := 4) dX6_tells_1 rfl ?_
          refine r_callS2 dX6_tells_2 lk_X6_100 (Nat.le_of_ble_eq_true rfl) (win_t (lim := 4) rfl (by decide) hs ?_)
          refine r_if_eq (tgt := 28) dX6_tells_5 (by decide) (fun hqz => absurd hqz (by decide)) (fun _ => ?_)
          refine r_aload_n dX6_tells_8 rfl ?_
          refine r_getR dX6_tells_9 fl_X6_10 (ly_0 hEc) rfl ?_
          refine r_iload_n dX6_tells_12 rfl ?_
          refine r_callV1 dX6_tells_13 lk_X6_125 (ly_1 hEc) rfl (Nat.le_of_ble_eq_true rfl) (has_t hEc hn (hR.1.2.2.1.trans h60) hp ?_)
          refine r_if_eq (tgt := 28) dX6_tells_16 (by decide) (fun hqz => absurd hqz (by decide)) (fun _ => ?_)
          refine r_iload_n dX6_tells_19 rfl ?_
          refine r_bipush (v := 8) dX6_tells_20 rfl ?_
          refine r_callS2 dX6_tells_22 lk_X6_100 (Nat.le_of_ble_eq_true rfl) (win_t (j := 2) (lim := 8) rfl (by decide) (by decide) ?_)
          refine r_if_ne (tgt := 31) dX6_tells_25 (by decide) (fun _ => ?_) (fun hqz => absurd hqz (by decide))
          refine r_aload_n dX6_tells_31 rfl ?_
          refine r_getR dX6_tells_32 fl_X6_52 (ly_0 hEc) rfl ?_
          refine r_iload_n dX6_tells_35 rfl ?_
          refine r_aaldN dX6_tells_36 (ly_7 hEc) (show s < 4 by omega) (by decide) (ly_7r (by omega)) ?_
          refine r_astore (loc' := [(4, .ref (8 + s)), (0, .ref 0), (1, .int (nI s)), (2, .int (nI p)), (3, .int 2)]) dX6_tells_37 (by decide) rfl ?_
          refine r_aload dX6_tells_39 rfl ?_
          refine r_callV0 dX6_tells_41 lk_X6_246 (ly_sh hEc hs) rfl (Nat.le_of_ble_eq_true rfl) (mis_f hEc hs (by rw [e1]; exact m1) ?_)
          refine r_if_eq (tgt := 50) dX6_tells_44 (by decide) (fun _ => ?_) (fun hqz => absurd (by decide) hqz)
          refine r_aload_n dX6_tells_50 rfl ?_
          refine r_getR dX6_tells_51 fl_X6_38 (ly_0 hEc) rfl ?_
          refine r_aload_n dX6_tells_54 rfl ?_
          refine r_getR dX6_tells_55 fl_X6_10 (ly_0 hEc) rfl ?_
          refine r_iload_n dX6_tells_58 rfl ?_
          refine r_callV2 dX6_tells_59 lk_X6_128 (ly_5 hEc) rfl (Nat.le_of_ble_eq_true rfl) (co_of hEc hW hR hp (fun A1 f1 hc hR1 => ?_))
          refine r_aload_n dX6_tells_62 rfl ?_
          refine r_getR dX6_tells_63 fl_X6_10 (ly_0 hEc) rfl ?_
          refine r_iload_n dX6_tells_66 rfl ?_
          refine r_callV1 dX6_tells_67 lk_X6_132 (ly_1 hEc) rfl (Nat.le_of_ble_eq_true rfl) (co_an hEc hW hR1 hp ?_)
          have hh1 := hh.fr hs (f1.mo (by decide))
          refine r_topi (fun v70 e70 => ?_)
          refine r_istore (loc' := [(5, .int v70), (4, .ref (8 + s)), (0, .ref 0), (1, .int (nI s)), (2, .int (nI p)), (3, .int 2)]) dX6_tells_70 (by decide) rfl ?_
          refine r_iload_n dX6_tells_72 rfl ?_
          refine r_tableIn (off := 61) (tgt := 134) dX6_tells_73 (by decide) (by decide) rfl (by decide) ?_
          refine r_aload_n dX6_tells_134 rfl ?_
          refine r_aload dX6_tells_135 rfl ?_
          refine r_iload dX6_tells_137 rfl ?_
          refine r_callV2 dX6_tells_139 lk_X6_257 (ly_0 hEc) rfl (Nat.le_of_ble_eq_true rfl) (sp_fn hs hy hc hh1 (fun A2 f2 => ?_))
          refine r_ireturn dX6_tells_142 rfl rfl ?_
          subst e70
          exact hk A2 (hR1.fr (f2.mo (by decide))) (hi2 (f526 f1) (Fr.hi f2 (by decide)))
        · skip
          refine qC.enter (by decide) (Nat.le_of_ble_eq_true rfl) ?_
          refine r_iload_n dX7_tells_0 rfl ?_
          refine r_callS1 dX7_tells_1 lk_X7_254 (Nat.le_of_ble_eq_true rfl) (iss_t hE hs ?_)
          refine r_if_eq (tgt := 25) dX7_tells_4 (by decide) (fun hqz => absurd hqz (by decide)) (fun _ => ?_)
          refine r_aload_n dX7_tells_7 rfl ?_
          refine r_iload_n dX7_tells_8 rfl ?_
          refine r_callV1 dX7_tells_9 lk_X7_82 (ly_38 hE) rfl (Nat.le_of_ble_eq_true rfl) (isP_t hE hn (by rw [hR.1]; exact h60) hp ?_)
          refine r_if_eq (tgt := 25) dX7_tells_12 (by decide) (fun hqz => absurd hqz (by decide)) (fun _ => ?_)
          refine r_iload_n dX7_tells_15 rfl ?_
          refine r_iconst (v := 0) dX7_tells_16 rfl ?_
          refine r_bipush (v := 7) dX7_tells_17 rfl ?_
          refine r_callS3 dX7_tells_19 lk_X7_78 (Nat.le_of_ble_eq_true rfl) (in_t (j := 2) (lim := 8) rfl rfl (by decide) (by decide) ?_)
          refine r_if_ne (tgt := 28) dX7_tells_22 (by decide) (fun _ => ?_) (fun hqz => absurd hqz (by decide))
          refine r_aload_n dX7_tells_28 rfl ?_
          refine r_getR dX7_tells_29 fl_X7_63 (ly_38 hE) rfl ?_
          refine r_iload_n dX7_tells_32 rfl ?_
          refine r_ialdN dX7_tells_33 (ly_53 hE) (by omega) (by decide) ?_
          refine r_iconst (v := (-1)) dX7_tells_34 rfl ?_
          refine r_icmp_ne (tgt := 41) dX7_tells_35 (by decide) (fun _ => ?_) (fun hqz => absurd hqz (by rw [r53]; exact m1))
          refine r_aload_n dX7_tells_41 rfl ?_
          refine r_iload_n dX7_tells_42 rfl ?_
          refine r_callV1 dX7_tells_43 lk_X7_97 (ly_38 hE) rfl (Nat.le_of_ble_eq_true rfl) (mo_take hE hW hR hp (fun A1 f1 fm hm => ?_))
          refine r_aload_n dX7_tells_46 rfl ?_
          refine r_iload_n dX7_tells_47 rfl ?_
          refine r_callV1 dX7_tells_48 lk_X7_101 (ly_38 hE) rfl (Nat.le_of_ble_eq_true rfl) (mo_an hE hW hm.rm hp ?_)
          refine r_topi (fun v51 e51 => ?_)
          refine r_istore (loc' := [(4, .int v51), (0, .ref 38), (1, .int (nI s)), (2, .int (nI p)), (3, .int 2)]) dX7_tells_51 (by decide) rfl ?_
          refine r_iload_n dX7_tells_53 rfl ?_
          refine r_if_ne (tgt := 65) dX7_tells_54 (by decide) (fun _ => ?_) (fun hqz => absurd hqz (by decide))
          refine r_iload_n dX7_tells_65 rfl ?_
          refine r_iconst (v := 3) dX7_tells_66 rfl ?_
          refine r_icmp_eq (tgt := 75) dX7_tells_67 (by decide) (fun hqz => absurd hqz (by decide)) (fun _ => ?_)
          refine r_iload_n dX7_tells_70 rfl ?_
          refine r_iconst (v := 4) dX7_tells_71 rfl ?_
          refine r_icmp_ne (tgt := 91) dX7_tells_72 (by decide) (fun _ => ?_) (fun hqz => absurd hqz (by decide))
          refine r_iload_n dX7_tells_91 rfl ?_
          refine r_iconst (v := 1) dX7_tells_92 rfl ?_
          refine r_icmp_eq (tgt := 102) dX7_tells_93 (by decide) (fun hqz => absurd hqz (by decide)) (fun _ => ?_)
          refine r_iload_n dX7_tells_96 rfl ?_
          refine r_bipush (v := 6) dX7_tells_97 rfl ?_
          refine r_icmp_ne (tgt := 107) dX7_tells_99 (by decide) (fun _ => ?_) (fun hqz => absurd hqz (by decide))
          refine r_iload_n dX7_tells_107 rfl ?_
          refine r_iconst (v := 2) dX7_tells_108 rfl ?_
          refine r_icmp_ne (tgt := 117) dX7_tells_109 (by decide) (fun hqz => absurd (by decide) hqz) (fun _ => ?_)
          refine r_bipush (v := 10) dX7_tells_112 rfl ?_
          refine r_goto (tgt := 133) dX7_tells_114 (by decide) ?_
          refine r_rw (y := nI 10) rfl ?_
          refine r_istore (loc' := [(5, .int 10), (4, .int v51), (0, .ref 38), (1, .int (nI s)), (2, .int (nI p)), (3, .int 2)]) dX7_tells_133 (by decide) rfl ?_
          refine r_iconst (v := 0) dX7_tells_135 rfl ?_
          refine r_istore (loc' := [(6, .int 0), (5, .int 10), (4, .int v51), (0, .ref 38), (1, .int (nI s)), (2, .int (nI p)), (3, .int 2)]) dX7_tells_136 (by decide) rfl ?_
          refine r_iconst (v := 0) dX7_tells_138 rfl ?_
          refine r_istore (loc' := [(7, .int 0), (6, .int 0), (5, .int 10), (4, .int v51), (0, .ref 38), (1, .int (nI s)), (2, .int (nI p)), (3, .int 2)]) dX7_tells_139 (by decide) rfl ?_
          refine qG.pick [0, 1, 2, 3, 4, 5, 6, 7] rfl ?_
          subst e51
          exact mt_loop2 hE hW hs hy e54 hp 10 0 0 A1 (by omega) hm.rm (fun A2 f2 => hk A2 (fm.tr f2))
      · refine hcm (nI (cA (fun v => ow S (rF S) (kdP S p) (nrP S p) s y (nI v)) N)) 3 (fun A L Ph hR hh e1 hk => ?_) (fun A L Ph hR r53 hk => ?_)
        · skip
          refine qC.enter (by decide) (Nat.le_of_ble_eq_true rfl) ?_
          refine r_iload_n dX6_tells_0 rfl ?_
          refine r_iconst (v := 4) dX6_tells_1 rfl ?_
          refine r_callS2 dX6_tells_2 lk_X6_100 (Nat.le_of_ble_eq_true rfl) (win_t (lim := 4) rfl (by decide) hs ?_)
          refine r_if_eq (tgt := 28) dX6_tells_5 (by decide) (fun hqz => absurd hqz (by decide)) (fun _ => ?_)
          refine r_aload_n dX6_tells_8 rfl ?_
          refine r_getR dX6_tells_9 fl_X6_10 (ly_0 hEc) rfl ?_
          refine r_iload_n dX6_tells_12 rfl ?_
          refine r_callV1 dX6_tells_13 lk_X6_125 (ly_1 hEc) rfl (Nat.le_of_ble_eq_true rfl) (has_t hEc hn (hR.1.2.2.1.trans h60) hp ?_)
          refine r_if_eq (tgt := 28) dX6_tells_16 (by decide) (fun hqz => absurd hqz (by decide)) (fun _ => ?_)
          refine r_iload_n dX6_tells_19 rfl ?_
          refine r_bipush (v := 8) dX6_tells_20 rfl ?_
          refine r_callS2 dX6_tells_22 lk_X6_100 (Nat.le_of_ble_eq_true rfl) (win_t (j := 3) (lim := 8) rfl (by decide) (by decide) ?_)
          refine r_if_ne (tgt := 31) dX6_tells_25 (by decide) (fun _ => ?_) (fun hqz => absurd hqz (by decide))
          refine r_aload_n dX6_tells_31 rfl ?_
          refine r_getR dX6_tells_32 fl_X6_52 (ly_0 hEc) rfl ?_
          refine r_iload_n dX6_tells_35 rfl ?_
          refine r_aaldN dX6_tells_36 (ly_7 hEc) (show s < 4 by omega) (by decide) (ly_7r (by omega)) ?_
          refine r_astore (loc' := [(4, .ref (8 + s)), (0, .ref 0), (1, .int (nI s)), (2, .int (nI p)), (3, .int 3)]) dX6_tells_37 (by decide) rfl ?_
          refine r_aload dX6_tells_39 rfl ?_
          refine r_callV0 dX6_tells_41 lk_X6_246 (ly_sh hEc hs) rfl (Nat.le_of_ble_eq_true rfl) (mis_f hEc hs (by rw [e1]; exact m1) ?_)
          refine r_if_eq (tgt := 50) dX6_tells_44 (by decide) (fun _ => ?_) (fun hqz => absurd (by decide) hqz)
          refine r_aload_n dX6_tells_50 rfl ?_
          refine r_getR dX6_tells_51 fl_X6_38 (ly_0 hEc) rfl ?_
          refine r_aload_n dX6_tells_54 rfl ?_
          refine r_getR dX6_tells_55 fl_X6_10 (ly_0 hEc) rfl ?_
          refine r_iload_n dX6_tells_58 rfl ?_
          refine r_callV2 dX6_tells_59 lk_X6_128 (ly_5 hEc) rfl (Nat.le_of_ble_eq_true rfl) (co_of hEc hW hR hp (fun A1 f1 hc hR1 => ?_))
          refine r_aload_n dX6_tells_62 rfl ?_
          refine r_getR dX6_tells_63 fl_X6_10 (ly_0 hEc) rfl ?_
          refine r_iload_n dX6_tells_66 rfl ?_
          refine r_callV1 dX6_tells_67 lk_X6_132 (ly_1 hEc) rfl (Nat.le_of_ble_eq_true rfl) (co_an hEc hW hR1 hp ?_)
          have hh1 := hh.fr hs (f1.mo (by decide))
          refine r_topi (fun v70 e70 => ?_)
          refine r_istore (loc' := [(5, .int v70), (4, .ref (8 + s)), (0, .ref 0), (1, .int (nI s)), (2, .int (nI p)), (3, .int 3)]) dX6_tells_70 (by decide) rfl ?_
          refine r_iload_n dX6_tells_72 rfl ?_
          refine r_tableIn (off := 70) (tgt := 143) dX6_tells_73 (by decide) (by decide) rfl (by decide) ?_
          refine r_aload_n dX6_tells_143 rfl ?_
          refine r_aload dX6_tells_144 rfl ?_
          refine r_callV1 dX6_tells_146 lk_X6_260 (ly_0 hEc) rfl (Nat.le_of_ble_eq_true rfl) (sp_fa hs hy hN (fun _ => rfl) hc hh1 (fun A2 f2 => ?_))
          refine r_ireturn dX6_tells_149 rfl rfl ?_
          skip
          exact hk A2 (hR1.fr (f2.mo (by decide))) (hi2 (f526 f1) (Fr.hi f2 (by decide)))
        · skip
          refine qC.enter (by decide) (Nat.le_of_ble_eq_true rfl) ?_
          refine r_iload_n dX7_tells_0 rfl ?_
          refine r_callS1 dX7_tells_1 lk_X7_254 (Nat.le_of_ble_eq_true rfl) (iss_t hE hs ?_)
          refine r_if_eq (tgt := 25) dX7_tells_4 (by decide) (fun hqz => absurd hqz (by decide)) (fun _ => ?_)
          refine r_aload_n dX7_tells_7 rfl ?_
          refine r_iload_n dX7_tells_8 rfl ?_
          refine r_callV1 dX7_tells_9 lk_X7_82 (ly_38 hE) rfl (Nat.le_of_ble_eq_true rfl) (isP_t hE hn (by rw [hR.1]; exact h60) hp ?_)
          refine r_if_eq (tgt := 25) dX7_tells_12 (by decide) (fun hqz => absurd hqz (by decide)) (fun _ => ?_)
          refine r_iload_n dX7_tells_15 rfl ?_
          refine r_iconst (v := 0) dX7_tells_16 rfl ?_
          refine r_bipush (v := 7) dX7_tells_17 rfl ?_
          refine r_callS3 dX7_tells_19 lk_X7_78 (Nat.le_of_ble_eq_true rfl) (in_t (j := 3) (lim := 8) rfl rfl (by decide) (by decide) ?_)
          refine r_if_ne (tgt := 28) dX7_tells_22 (by decide) (fun _ => ?_) (fun hqz => absurd hqz (by decide))
          refine r_aload_n dX7_tells_28 rfl ?_
          refine r_getR dX7_tells_29 fl_X7_63 (ly_38 hE) rfl ?_
          refine r_iload_n dX7_tells_32 rfl ?_
          refine r_ialdN dX7_tells_33 (ly_53 hE) (by omega) (by decide) ?_
          refine r_iconst (v := (-1)) dX7_tells_34 rfl ?_
          refine r_icmp_ne (tgt := 41) dX7_tells_35 (by decide) (fun _ => ?_) (fun hqz => absurd hqz (by rw [r53]; exact m1))
          refine r_aload_n dX7_tells_41 rfl ?_
          refine r_iload_n dX7_tells_42 rfl ?_
          refine r_callV1 dX7_tells_43 lk_X7_97 (ly_38 hE) rfl (Nat.le_of_ble_eq_true rfl) (mo_take hE hW hR hp (fun A1 f1 fm hm => ?_))
          refine r_aload_n dX7_tells_46 rfl ?_
          refine r_iload_n dX7_tells_47 rfl ?_
          refine r_callV1 dX7_tells_48 lk_X7_101 (ly_38 hE) rfl (Nat.le_of_ble_eq_true rfl) (mo_an hE hW hm.rm hp ?_)
          refine r_topi (fun v51 e51 => ?_)
          refine r_istore (loc' := [(4, .int v51), (0, .ref 38), (1, .int (nI s)), (2, .int (nI p)), (3, .int 3)]) dX7_tells_51 (by decide) rfl ?_
          refine r_iload_n dX7_tells_53 rfl ?_
          refine r_if_ne (tgt := 65) dX7_tells_54 (by decide) (fun _ => ?_) (fun hqz => absurd hqz (by decide))
          refine r_iload_n dX7_tells_65 rfl ?_
          refine r_iconst (v := 3) dX7_tells_66 rfl ?_
          refine r_icmp_eq (tgt := 75) dX7_tells_67 (by decide) (fun _ => ?_) (fun hqz => absurd (by decide) hqz)
          refine r_aload_n dX7_tells_75 rfl ?_
          refine r_iload_n dX7_tells_76 rfl ?_
          refine r_iload_n dX7_tells_77 rfl ?_
          refine r_iconst (v := 3) dX7_tells_78 rfl ?_
          refine r_icmp_ne (tgt := 86) dX7_tells_79 (by decide) (fun hqz => absurd (by decide) hqz) (fun _ => ?_)
          refine r_iconst (v := 1) dX7_tells_82 rfl ?_
          refine r_goto (tgt := 87) dX7_tells_83 (by decide) ?_
          refine r_callV2 dX7_tells_87 lk_X7_267 (ly_38 hE) rfl (Nat.le_of_ble_eq_true rfl) (sp_fitA hs hy e54 hN (fun _ => rfl) hm (fun A2 f2 => ?_))
          refine r_ireturn dX7_tells_90 rfl rfl ?_
          skip
          exact hk A2 (fm.tr (fm46 f2))
      · refine hcm (leF (fun v => ow S (rF S) (kdP S p) (nrP S p) s y (nI v)) N 0) 4 (fun A L Ph hR hh e1 hk => ?_) (fun A L Ph hR r53 hk => ?_)
        · skip
          refine qC.enter (by decide) (Nat.le_of_ble_eq_true rfl) ?_
          refine r_iload_n dX6_tells_0 rfl ?_
          refine r_iconst (v := 4) dX6_tells_1 rfl ?_
          refine r_callS2 dX6_tells_2 lk_X6_100 (Nat.le_of_ble_eq_true rfl) (win_t (lim := 4) rfl (by decide) hs ?_)
          refine r_if_eq (tgt := 28) dX6_tells_5 (by decide) (fun hqz => absurd hqz (by decide)) (fun _ => ?_)
          refine r_aload_n dX6_tells_8 rfl ?_
          refine r_getR dX6_tells_9 fl_X6_10 (ly_0 hEc) rfl ?_
          refine r_iload_n dX6_tells_12 rfl ?_
          refine r_callV1 dX6_tells_13 lk_X6_125 (ly_1 hEc) rfl (Nat.le_of_ble_eq_true rfl) (has_t hEc hn (hR.1.2.2.1.trans h60) hp ?_)
          refine r_if_eq (tgt := 28) dX6_tells_16 (by decide) (fun hqz => absurd hqz (by decide)) (fun _ => ?_)
          refine r_iload_n dX6_tells_19 rfl ?_
          refine r_bipush (v := 8) dX6_tells_20 rfl ?_
          refine r_callS2 dX6_tells_22 lk_X6_100 (Nat.le_of_ble_eq_true rfl) (win_t (j := 4) (lim := 8) rfl (by decide) (by decide) ?_)
          refine r_if_ne (tgt := 31) dX6_tells_25 (by decide) (fun _ => ?_) (fun hqz => absurd hqz (by decide))
          refine r_aload_n dX6_tells_31 rfl ?_
          refine r_getR dX6_tells_32 fl_X6_52 (ly_0 hEc) rfl ?_
          refine r_iload_n dX6_tells_35 rfl ?_
          refine r_aaldN dX6_tells_36 (ly_7 hEc) (show s < 4 by omega) (by decide) (ly_7r (by omega)) ?_
          refine r_astore (loc' := [(4, .ref (8 + s)), (0, .ref 0), (1, .int (nI s)), (2, .int (nI p)), (3, .int 4)]) dX6_tells_37 (by decide) rfl ?_
          refine r_aload dX6_tells_39 rfl ?_
          refine r_callV0 dX6_tells_41 lk_X6_246 (ly_sh hEc hs) rfl (Nat.le_of_ble_eq_true rfl) (mis_f hEc hs (by rw [e1]; exact m1) ?_)
          refine r_if_eq (tgt := 50) dX6_tells_44 (by decide) (fun _ => ?_) (fun hqz => absurd (by decide) hqz)
          refine r_aload_n dX6_tells_50 rfl ?_
          refine r_getR dX6_tells_51 fl_X6_38 (ly_0 hEc) rfl ?_
          refine r_aload_n dX6_tells_54 rfl ?_
          refine r_getR dX6_tells_55 fl_X6_10 (ly_0 hEc) rfl ?_
          refine r_iload_n dX6_tells_58 rfl ?_
          refine r_callV2 dX6_tells_59 lk_X6_128 (ly_5 hEc) rfl (Nat.le_of_ble_eq_true rfl) (co_of hEc hW hR hp (fun A1 f1 hc hR1 => ?_))
          refine r_aload_n dX6_tells_62 rfl ?_
          refine r_getR dX6_tells_63 fl_X6_10 (ly_0 hEc) rfl ?_
          refine r_iload_n dX6_tells_66 rfl ?_
          refine r_callV1 dX6_tells_67 lk_X6_132 (ly_1 hEc) rfl (Nat.le_of_ble_eq_true rfl) (co_an hEc hW hR1 hp ?_)
          have hh1 := hh.fr hs (f1.mo (by decide))
          refine r_topi (fun v70 e70 => ?_)
          refine r_istore (loc' := [(5, .int v70), (4, .ref (8 + s)), (0, .ref 0), (1, .int (nI s)), (2, .int (nI p)), (3, .int 4)]) dX6_tells_70 (by decide) rfl ?_
          refine r_iload_n dX6_tells_72 rfl ?_
          refine r_tableIn (off := 77) (tgt := 150) dX6_tells_73 (by decide) (by decide) rfl (by decide) ?_
          refine r_aload_n dX6_tells_150 rfl ?_
          refine r_aload dX6_tells_151 rfl ?_
          refine r_callV1 dX6_tells_153 lk_X6_264 (ly_0 hEc) rfl (Nat.le_of_ble_eq_true rfl) (sp_fl hs hy hN (fun _ => rfl) hc hh1 (fun A2 f2 => ?_))
          refine r_ireturn dX6_tells_156 rfl rfl ?_
          skip
          exact hk A2 (hR1.fr (f2.mo (by decide))) (hi2 (f526 f1) (Fr.hi f2 (by decide)))
        · skip
          refine qC.enter (by decide) (Nat.le_of_ble_eq_true rfl) ?_
          refine r_iload_n dX7_tells_0 rfl ?_
          refine r_callS1 dX7_tells_1 lk_X7_254 (Nat.le_of_ble_eq_true rfl) (iss_t hE hs ?_)
          refine r_if_eq (tgt := 25) dX7_tells_4 (by decide) (fun hqz => absurd hqz (by decide)) (fun _ => ?_)
          refine r_aload_n dX7_tells_7 rfl ?_
          refine r_iload_n dX7_tells_8 rfl ?_
          refine r_callV1 dX7_tells_9 lk_X7_82 (ly_38 hE) rfl (Nat.le_of_ble_eq_true rfl) (isP_t hE hn (by rw [hR.1]; exact h60) hp ?_)
          refine r_if_eq (tgt := 25) dX7_tells_12 (by decide) (fun hqz => absurd hqz (by decide)) (fun _ => ?_)
          refine r_iload_n dX7_tells_15 rfl ?_
          refine r_iconst (v := 0) dX7_tells_16 rfl ?_
          refine r_bipush (v := 7) dX7_tells_17 rfl ?_
          refine r_callS3 dX7_tells_19 lk_X7_78 (Nat.le_of_ble_eq_true rfl) (in_t (j := 4) (lim := 8) rfl rfl (by decide) (by decide) ?_)
          refine r_if_ne (tgt := 28) dX7_tells_22 (by decide) (fun _ => ?_) (fun hqz => absurd hqz (by decide))
          refine r_aload_n dX7_tells_28 rfl ?_
          refine r_getR dX7_tells_29 fl_X7_63 (ly_38 hE) rfl ?_
          refine r_iload_n dX7_tells_32 rfl ?_
          refine r_ialdN dX7_tells_33 (ly_53 hE) (by omega) (by decide) ?_
          refine r_iconst (v := (-1)) dX7_tells_34 rfl ?_
          refine r_icmp_ne (tgt := 41) dX7_tells_35 (by decide) (fun _ => ?_) (fun hqz => absurd hqz (by rw [r53]; exact m1))
          refine r_aload_n dX7_tells_41 rfl ?_
          refine r_iload_n dX7_tells_42 rfl ?_
          refine r_callV1 dX7_tells_43 lk_X7_97 (ly_38 hE) rfl (Nat.le_of_ble_eq_true rfl) (mo_take hE hW hR hp (fun A1 f1 fm hm => ?_))
          refine r_aload_n dX7_tells_46 rfl ?_
          refine r_iload_n dX7_tells_47 rfl ?_
          refine r_callV1 dX7_tells_48 lk_X7_101 (ly_38 hE) rfl (Nat.le_of_ble_eq_true rfl) (mo_an hE hW hm.rm hp ?_)
          refine r_topi (fun v51 e51 => ?_)
          refine r_istore (loc' := [(4, .int v51), (0, .ref 38), (1, .int (nI s)), (2, .int (nI p)), (3, .int 4)]) dX7_tells_51 (by decide) rfl ?_
          refine r_iload_n dX7_tells_53 rfl ?_
          refine r_if_ne (tgt := 65) dX7_tells_54 (by decide) (fun _ => ?_) (fun hqz => absurd hqz (by decide))
          refine r_iload_n dX7_tells_65 rfl ?_
          refine r_iconst (v := 3) dX7_tells_66 rfl ?_
          refine r_icmp_eq (tgt := 75) dX7_tells_67 (by decide) (fun hqz => absurd hqz (by decide)) (fun _ => ?_)
          refine r_iload_n dX7_tells_70 rfl ?_
          refine r_iconst (v := 4) dX7_tells_71 rfl ?_
          refine r_icmp_ne (tgt := 91) dX7_tells_72 (by decide) (fun hqz => absurd (by decide) hqz) (fun _ => ?_)
          refine r_aload_n dX7_tells_75 rfl ?_
          refine r_iload_n dX7_tells_76 rfl ?_
          refine r_iload_n dX7_tells_77 rfl ?_
          refine r_iconst (v := 3) dX7_tells_78 rfl ?_
          refine r_icmp_ne (tgt := 86) dX7_tells_79 (by decide) (fun _ => ?_) (fun hqz => absurd hqz (by decide))
          refine r_iconst (v := 0) dX7_tells_86 rfl ?_
          refine r_callV2 dX7_tells_87 lk_X7_267 (ly_38 hE) rfl (Nat.le_of_ble_eq_true rfl) (sp_fitA hs hy e54 hN (fun _ => rfl) hm (fun A2 f2 => ?_))
          refine r_ireturn dX7_tells_90 rfl rfl ?_
          skip
          exact hk A2 (fm.tr (fm46 f2))
      · refine hcm (bsF (fun v => ow S v (kdP S p) (nrP S p) s y (anP S p)) T 0 0) 5 (fun A L Ph hR hh e1 hk => ?_) (fun A L Ph hR r53 hk => ?_)
        · skip
          refine qC.enter (by decide) (Nat.le_of_ble_eq_true rfl) ?_
          refine r_iload_n dX6_tells_0 rfl ?_
          refine r_iconst (v := 4) dX6_tells_1 rfl ?_
          refine r_callS2 dX6_tells_2 lk_X6_100 (Nat.le_of_ble_eq_true rfl) (win_t (lim := 4) rfl (by decide) hs ?_)
          refine r_if_eq (tgt := 28) dX6_tells_5 (by decide) (fun hqz => absurd hqz (by decide)) (fun _ => ?_)
          refine r_aload_n dX6_tells_8 rfl ?_
          refine r_getR dX6_tells_9 fl_X6_10 (ly_0 hEc) rfl ?_
          refine r_iload_n dX6_tells_12 rfl ?_
          refine r_callV1 dX6_tells_13 lk_X6_125 (ly_1 hEc) rfl (Nat.le_of_ble_eq_true rfl) (has_t hEc hn (hR.1.2.2.1.trans h60) hp ?_)
          refine r_if_eq (tgt := 28) dX6_tells_16 (by decide) (fun hqz => absurd hqz (by decide)) (fun _ => ?_)
          refine r_iload_n dX6_tells_19 rfl ?_
          refine r_bipush (v := 8) dX6_tells_20 rfl ?_
          refine r_callS2 dX6_tells_22 lk_X6_100 (Nat.le_of_ble_eq_true rfl) (win_t (j := 5) (lim := 8) rfl (by decide) (by decide) ?_)
          refine r_if_ne (tgt := 31) dX6_tells_25 (by decide) (fun _ => ?_) (fun hqz => absurd hqz (by decide))
          refine r_aload_n dX6_tells_31 rfl ?_
          refine r_getR dX6_tells_32 fl_X6_52 (ly_0 hEc) rfl ?_
          refine r_iload_n dX6_tells_35 rfl ?_
          refine r_aaldN dX6_tells_36 (ly_7 hEc) (show s < 4 by omega) (by decide) (ly_7r (by omega)) ?_
          refine r_astore (loc' := [(4, .ref (8 + s)), (0, .ref 0), (1, .int (nI s)), (2, .int (nI p)), (3, .int 5)]) dX6_tells_37 (by decide) rfl ?_
          refine r_aload dX6_tells_39 rfl ?_
          refine r_callV0 dX6_tells_41 lk_X6_246 (ly_sh hEc hs) rfl (Nat.le_of_ble_eq_true rfl) (mis_f hEc hs (by rw [e1]; exact m1) ?_)
          refine r_if_eq (tgt := 50) dX6_tells_44 (by decide) (fun _ => ?_) (fun hqz => absurd (by decide) hqz)
          refine r_aload_n dX6_tells_50 rfl ?_
          refine r_getR dX6_tells_51 fl_X6_38 (ly_0 hEc) rfl ?_
          refine r_aload_n dX6_tells_54 rfl ?_
          refine r_getR dX6_tells_55 fl_X6_10 (ly_0 hEc) rfl ?_
          refine r_iload_n dX6_tells_58 rfl ?_
          refine r_callV2 dX6_tells_59 lk_X6_128 (ly_5 hEc) rfl (Nat.le_of_ble_eq_true rfl) (co_of hEc hW hR hp (fun A1 f1 hc hR1 => ?_))
          refine r_aload_n dX6_tells_62 rfl ?_
          refine r_getR dX6_tells_63 fl_X6_10 (ly_0 hEc) rfl ?_
          refine r_iload_n dX6_tells_66 rfl ?_
          refine r_callV1 dX6_tells_67 lk_X6_132 (ly_1 hEc) rfl (Nat.le_of_ble_eq_true rfl) (co_an hEc hW hR1 hp ?_)
          have hh1 := hh.fr hs (f1.mo (by decide))
          refine r_topi (fun v70 e70 => ?_)
          refine r_istore (loc' := [(5, .int v70), (4, .ref (8 + s)), (0, .ref 0), (1, .int (nI s)), (2, .int (nI p)), (3, .int 5)]) dX6_tells_70 (by decide) rfl ?_
          refine r_iload_n dX6_tells_72 rfl ?_
          refine r_tableIn (off := 84) (tgt := 157) dX6_tells_73 (by decide) (by decide) rfl (by decide) ?_
          refine r_aload_n dX6_tells_157 rfl ?_
          refine r_aload dX6_tells_158 rfl ?_
          refine r_iload dX6_tells_160 rfl ?_
          refine r_callV2 dX6_tells_162 lk_X6_267 (ly_0 hEc) rfl (Nat.le_of_ble_eq_true rfl) (sp_ft hs hy hT hW.2.2.1 hW.2.2.2.1 hc hh1 (fun A2 f2 => ?_))
          refine r_ireturn dX6_tells_165 rfl rfl ?_
          subst e70
          exact hk A2 (hR1.fr (f2.mo (by decide))) (hi2 (f526 f1) (Fr.hi f2 (by decide)))
        · skip
          refine qC.enter (by decide) (Nat.le_of_ble_eq_true rfl) ?_
          refine r_iload_n dX7_tells_0 rfl ?_
          refine r_callS1 dX7_tells_1 lk_X7_254 (Nat.le_of_ble_eq_true rfl) (iss_t hE hs ?_)
          refine r_if_eq (tgt := 25) dX7_tells_4 (by decide) (fun hqz => absurd hqz (by decide)) (fun _ => ?_)
          refine r_aload_n dX7_tells_7 rfl ?_
          refine r_iload_n dX7_tells_8 rfl ?_
          refine r_callV1 dX7_tells_9 lk_X7_82 (ly_38 hE) rfl (Nat.le_of_ble_eq_true rfl) (isP_t hE hn (by rw [hR.1]; exact h60) hp ?_)
          refine r_if_eq (tgt := 25) dX7_tells_12 (by decide) (fun hqz => absurd hqz (by decide)) (fun _ => ?_)
          refine r_iload_n dX7_tells_15 rfl ?_
          refine r_iconst (v := 0) dX7_tells_16 rfl ?_
          refine r_bipush (v := 7) dX7_tells_17 rfl ?_
          refine r_callS3 dX7_tells_19 lk_X7_78 (Nat.le_of_ble_eq_true rfl) (in_t (j := 5) (lim := 8) rfl rfl (by decide) (by decide) ?_)
          refine r_if_ne (tgt := 28) dX7_tells_22 (by decide) (fun _ => ?_) (fun hqz => absurd hqz (by decide))
          refine r_aload_n dX7_tells_28 rfl ?_
          refine r_getR dX7_tells_29 fl_X7_63 (ly_38 hE) rfl ?_
          refine r_iload_n dX7_tells_32 rfl ?_
          refine r_ialdN dX7_tells_33 (ly_53 hE) (by omega) (by decide) ?_
          refine r_iconst (v := (-1)) dX7_tells_34 rfl ?_
          refine r_icmp_ne (tgt := 41) dX7_tells_35 (by decide) (fun _ => ?_) (fun hqz => absurd hqz (by rw [r53]; exact m1))
          refine r_aload_n dX7_tells_41 rfl ?_
          refine r_iload_n dX7_tells_42 rfl ?_
          refine r_callV1 dX7_tells_43 lk_X7_97 (ly_38 hE) rfl (Nat.le_of_ble_eq_true rfl) (mo_take hE hW hR hp (fun A1 f1 fm hm => ?_))
          refine r_aload_n dX7_tells_46 rfl ?_
          refine r_iload_n dX7_tells_47 rfl ?_
          refine r_callV1 dX7_tells_48 lk_X7_101 (ly_38 hE) rfl (Nat.le_of_ble_eq_true rfl) (mo_an hE hW hm.rm hp ?_)
          refine r_topi (fun v51 e51 => ?_)
          refine r_istore (loc' := [(4, .int v51), (0, .ref 38), (1, .int (nI s)), (2, .int (nI p)), (3, .int 5)]) dX7_tells_51 (by decide) rfl ?_
          refine r_iload_n dX7_tells_53 rfl ?_
          refine r_if_ne (tgt := 65) dX7_tells_54 (by decide) (fun _ => ?_) (fun hqz => absurd hqz (by decide))
          refine r_iload_n dX7_tells_65 rfl ?_
          refine r_iconst (v := 3) dX7_tells_66 rfl ?_
          refine r_icmp_eq (tgt := 75) dX7_tells_67 (by decide) (fun hqz => absurd hqz (by decide)) (fun _ => ?_)
          refine r_iload_n dX7_tells_70 rfl ?_
          refine r_iconst (v := 4) dX7_tells_71 rfl ?_
          refine r_icmp_ne (tgt := 91) dX7_tells_72 (by decide) (fun _ => ?_) (fun hqz => absurd hqz (by decide))
          refine r_iload_n dX7_tells_91 rfl ?_
          refine r_iconst (v := 1) dX7_tells_92 rfl ?_
          refine r_icmp_eq (tgt := 102) dX7_tells_93 (by decide) (fun hqz => absurd hqz (by decide)) (fun _ => ?_)
          refine r_iload_n dX7_tells_96 rfl ?_
          refine r_bipush (v := 6) dX7_tells_97 rfl ?_
          refine r_icmp_ne (tgt := 107) dX7_tells_99 (by decide) (fun _ => ?_) (fun hqz => absurd hqz (by decide))
          refine r_iload_n dX7_tells_107 rfl ?_
          refine r_iconst (v := 2) dX7_tells_108 rfl ?_
          refine r_icmp_ne (tgt := 117) dX7_tells_109 (by decide) (fun _ => ?_) (fun hqz => absurd hqz (by decide))
          refine r_iload_n dX7_tells_117 rfl ?_
          refine r_iconst (v := 5) dX7_tells_118 rfl ?_
          refine r_icmp_ne (tgt := 129) dX7_tells_119 (by decide) (fun hqz => absurd (by decide) hqz) (fun _ => ?_)
          refine r_aload_n dX7_tells_122 rfl ?_
          refine r_getI dX7_tells_123 fl_X7_29 (ly_38 hE) rfl ?_
          refine r_rw (y := nI T) (hm.rm.2.2.2.2.1.trans hW.2.2.1) ?_
          refine r_goto (tgt := 133) dX7_tells_126 (by decide) ?_
          refine r_istore (loc' := [(5, .int (nI T)), (4, .int v51), (0, .ref 38), (1, .int (nI s)), (2, .int (nI p)), (3, .int 5)]) dX7_tells_133 (by decide) rfl ?_
          refine r_iconst (v := 0) dX7_tells_135 rfl ?_
          refine r_istore (loc' := [(6, .int 0), (5, .int (nI T)), (4, .int v51), (0, .ref 38), (1, .int (nI s)), (2, .int (nI p)), (3, .int 5)]) dX7_tells_136 (by decide) rfl ?_
          refine r_iconst (v := 0) dX7_tells_138 rfl ?_
          refine r_istore (loc' := [(7, .int 0), (6, .int 0), (5, .int (nI T)), (4, .int v51), (0, .ref 38), (1, .int (nI s)), (2, .int (nI p)), (3, .int 5)]) dX7_tells_139 (by decide) rfl ?_
          refine qG.pick [0, 1, 2, 3, 4, 5, 6, 7] rfl ?_
          subst e51
          exact mt_loop5 hE hW hs hy e54 hp T 0 0 A1 (by omega) hm.rm (fun A2 f2 => hk A2 (fm.tr f2))
      · refine hcm (bsF (fun v => ow S (rF S) (kdP S p) (nrP S p) s y (bwF S (rF S) (kdP S p) (nrP S p) (anP S p) (nI v))) 6 0 0) 6 (fun A L Ph hR hh e1 hk => ?_) (fun A L Ph hR r53 hk => ?_)
        · skip
          refine qC.enter (by decide) (Nat.le_of_ble_eq_true rfl) ?_
          refine r_iload_n dX6_tells_0 rfl ?_
          refine r_iconst (v := 4) dX6_tells_1 rfl ?_
          refine r_callS2 dX6_tells_2 lk_X6_100 (Nat.le_of_ble_eq_true rfl) (win_t (lim := 4) rfl (by decide) hs ?_)
          refine r_if_eq (tgt := 28) dX6_tells_5 (by decide) (fun hqz => absurd hqz (by decide)) (fun _ => ?_)
          refine r_aload_n dX6_tells_8 rfl ?_
          refine r_getR dX6_tells_9 fl_X6_10 (ly_0 hEc) rfl ?_
          refine r_iload_n dX6_tells_12 rfl ?_
          refine r_callV1 dX6_tells_13 lk_X6_125 (ly_1 hEc) rfl (Nat.le_of_ble_eq_true rfl) (has_t hEc hn (hR.1.2.2.1.trans h60) hp ?_)
          refine r_if_eq (tgt := 28) dX6_tells_16 (by decide) (fun hqz => absurd hqz (by decide)) (fun _ => ?_)
          refine r_iload_n dX6_tells_19 rfl ?_
          refine r_bipush (v := 8) dX6_tells_20 rfl ?_
          refine r_callS2 dX6_tells_22 lk_X6_100 (Nat.le_of_ble_eq_true rfl) (win_t (j := 6) (lim := 8) rfl (by decide) (by decide) ?_)
          refine r_if_ne (tgt := 31) dX6_tells_25 (by decide) (fun _ => ?_) (fun hqz => absurd hqz (by decide))
          refine r_aload_n dX6_tells_31 rfl ?_
          refine r_getR dX6_tells_32 fl_X6_52 (ly_0 hEc) rfl ?_
          refine r_iload_n dX6_tells_35 rfl ?_
          refine r_aaldN dX6_tells_36 (ly_7 hEc) (show s < 4 by omega) (by decide) (ly_7r (by omega)) ?_
          refine r_astore (loc' := [(4, .ref (8 + s)), (0, .ref 0), (1, .int (nI s)), (2, .int (nI p)), (3, .int 6)]) dX6_tells_37 (by decide) rfl ?_
          refine r_aload dX6_tells_39 rfl ?_
          refine r_callV0 dX6_tells_41 lk_X6_246 (ly_sh hEc hs) rfl (Nat.le_of_ble_eq_true rfl) (mis_f hEc hs (by rw [e1]; exact m1) ?_)
          refine r_if_eq (tgt := 50) dX6_tells_44 (by decide) (fun _ => ?_) (fun hqz => absurd (by decide) hqz)
          refine r_aload_n dX6_tells_50 rfl ?_
          refine r_getR dX6_tells_51 fl_X6_38 (ly_0 hEc) rfl ?_
          refine r_aload_n dX6_tells_54 rfl ?_
          refine r_getR dX6_tells_55 fl_X6_10 (ly_0 hEc) rfl ?_
          refine r_iload_n dX6_tells_58 rfl ?_
          refine r_callV2 dX6_tells_59 lk_X6_128 (ly_5 hEc) rfl (Nat.le_of_ble_eq_true rfl) (co_of hEc hW hR hp (fun A1 f1 hc hR1 => ?_))
          refine r_aload_n dX6_tells_62 rfl ?_
          refine r_getR dX6_tells_63 fl_X6_10 (ly_0 hEc) rfl ?_
          refine r_iload_n dX6_tells_66 rfl ?_
          refine r_callV1 dX6_tells_67 lk_X6_132 (ly_1 hEc) rfl (Nat.le_of_ble_eq_true rfl) (co_an hEc hW hR1 hp ?_)
          have hh1 := hh.fr hs (f1.mo (by decide))
          refine r_topi (fun v70 e70 => ?_)
          refine r_istore (loc' := [(5, .int v70), (4, .ref (8 + s)), (0, .ref 0), (1, .int (nI s)), (2, .int (nI p)), (3, .int 6)]) dX6_tells_70 (by decide) rfl ?_
          refine r_iload_n dX6_tells_72 rfl ?_
          refine r_tableIn (off := 93) (tgt := 166) dX6_tells_73 (by decide) (by decide) rfl (by decide) ?_
          refine r_aload_n dX6_tells_166 rfl ?_
          refine r_aload dX6_tells_167 rfl ?_
          refine r_iload dX6_tells_169 rfl ?_
          refine r_callV2 dX6_tells_171 lk_X6_270 (ly_0 hEc) rfl (Nat.le_of_ble_eq_true rfl) (sp_fw hs hy hc hh1 (fun A2 f2 => ?_))
          refine r_ireturn dX6_tells_174 rfl rfl ?_
          subst e70
          exact hk A2 (hR1.fr (f2.mo (by decide))) (hi2 (f526 f1) (Fr.hi f2 (by decide)))
        · skip
          refine qC.enter (by decide) (Nat.le_of_ble_eq_true rfl) ?_
          refine r_iload_n dX7_tells_0 rfl ?_
          refine r_callS1 dX7_tells_1 lk_X7_254 (Nat.le_of_ble_eq_true rfl) (iss_t hE hs ?_)
          refine r_if_eq (tgt := 25) dX7_tells_4 (by decide) (fun hqz => absurd hqz (by decide)) (fun _ => ?_)
          refine r_aload_n dX7_tells_7 rfl ?_
          refine r_iload_n dX7_tells_8 rfl ?_
          refine r_callV1 dX7_tells_9 lk_X7_82 (ly_38 hE) rfl (Nat.le_of_ble_eq_true rfl) (isP_t hE hn (by rw [hR.1]; exact h60) hp ?_)
          refine r_if_eq (tgt := 25) dX7_tells_12 (by decide) (fun hqz => absurd hqz (by decide)) (fun _ => ?_)
          refine r_iload_n dX7_tells_15 rfl ?_
          refine r_iconst (v := 0) dX7_tells_16 rfl ?_
          refine r_bipush (v := 7) dX7_tells_17 rfl ?_
          refine r_callS3 dX7_tells_19 lk_X7_78 (Nat.le_of_ble_eq_true rfl) (in_t (j := 6) (lim := 8) rfl rfl (by decide) (by decide) ?_)
          refine r_if_ne (tgt := 28) dX7_tells_22 (by decide) (fun _ => ?_) (fun hqz => absurd hqz (by decide))
          refine r_aload_n dX7_tells_28 rfl ?_
          refine r_getR dX7_tells_29 fl_X7_63 (ly_38 hE) rfl ?_
          refine r_iload_n dX7_tells_32 rfl ?_
          refine r_ialdN dX7_tells_33 (ly_53 hE) (by omega) (by decide) ?_
          refine r_iconst (v := (-1)) dX7_tells_34 rfl ?_
          refine r_icmp_ne (tgt := 41) dX7_tells_35 (by decide) (fun _ => ?_) (fun hqz => absurd hqz (by rw [r53]; exact m1))
          refine r_aload_n dX7_tells_41 rfl ?_
          refine r_iload_n dX7_tells_42 rfl ?_
          refine r_callV1 dX7_tells_43 lk_X7_97 (ly_38 hE) rfl (Nat.le_of_ble_eq_true rfl) (mo_take hE hW hR hp (fun A1 f1 fm hm => ?_))
          refine r_aload_n dX7_tells_46 rfl ?_
          refine r_iload_n dX7_tells_47 rfl ?_
          refine r_callV1 dX7_tells_48 lk_X7_101 (ly_38 hE) rfl (Nat.le_of_ble_eq_true rfl) (mo_an hE hW hm.rm hp ?_)
          refine r_topi (fun v51 e51 => ?_)
          refine r_istore (loc' := [(4, .int v51), (0, .ref 38), (1, .int (nI s)), (2, .int (nI p)), (3, .int 6)]) dX7_tells_51 (by decide) rfl ?_
          refine r_iload_n dX7_tells_53 rfl ?_
          refine r_if_ne (tgt := 65) dX7_tells_54 (by decide) (fun _ => ?_) (fun hqz => absurd hqz (by decide))
          refine r_iload_n dX7_tells_65 rfl ?_
          refine r_iconst (v := 3) dX7_tells_66 rfl ?_
          refine r_icmp_eq (tgt := 75) dX7_tells_67 (by decide) (fun hqz => absurd hqz (by decide)) (fun _ => ?_)
          refine r_iload_n dX7_tells_70 rfl ?_
          refine r_iconst (v := 4) dX7_tells_71 rfl ?_
          refine r_icmp_ne (tgt := 91) dX7_tells_72 (by decide) (fun _ => ?_) (fun hqz => absurd hqz (by decide))
          refine r_iload_n dX7_tells_91 rfl ?_
          refine r_iconst (v := 1) dX7_tells_92 rfl ?_
          refine r_icmp_eq (tgt := 102) dX7_tells_93 (by decide) (fun hqz => absurd hqz (by decide)) (fun _ => ?_)
          refine r_iload_n dX7_tells_96 rfl ?_
          refine r_bipush (v := 6) dX7_tells_97 rfl ?_
          refine r_icmp_ne (tgt := 107) dX7_tells_99 (by decide) (fun hqz => absurd (by decide) hqz) (fun _ => ?_)
          refine r_bipush (v := 6) dX7_tells_102 rfl ?_
          refine r_goto (tgt := 133) dX7_tells_104 (by decide) ?_
          refine r_rw (y := nI 6) rfl ?_
          refine r_istore (loc' := [(5, .int 6), (4, .int v51), (0, .ref 38), (1, .int (nI s)), (2, .int (nI p)), (3, .int 6)]) dX7_tells_133 (by decide) rfl ?_
          refine r_iconst (v := 0) dX7_tells_135 rfl ?_
          refine r_istore (loc' := [(6, .int 0), (5, .int 6), (4, .int v51), (0, .ref 38), (1, .int (nI s)), (2, .int (nI p)), (3, .int 6)]) dX7_tells_136 (by decide) rfl ?_
          refine r_iconst (v := 0) dX7_tells_138 rfl ?_
          refine r_istore (loc' := [(7, .int 0), (6, .int 0), (5, .int 6), (4, .int v51), (0, .ref 38), (1, .int (nI s)), (2, .int (nI p)), (3, .int 6)]) dX7_tells_139 (by decide) rfl ?_
          refine qG.pick [0, 1, 2, 3, 4, 5, 6, 7] rfl ?_
          subst e51
          exact mt_loop6 hE hW hs hy e54 hp 6 0 0 A1 (by omega) hm.rm (fun A2 f2 => hk A2 (fm.tr f2))
      · refine hcm (bsF (fun v => ow S (rF S) (kdP S v) (nrP S v) s y (anP S v)) n 0 0) 7 (fun A L Ph hR hh e1 hk => ?_) (fun A L Ph hR r53 hk => ?_)
        · skip
          refine qC.enter (by decide) (Nat.le_of_ble_eq_true rfl) ?_
          refine r_iload_n dX6_tells_0 rfl ?_
          refine r_iconst (v := 4) dX6_tells_1 rfl ?_
          refine r_callS2 dX6_tells_2 lk_X6_100 (Nat.le_of_ble_eq_true rfl) (win_t (lim := 4) rfl (by decide) hs ?_)
          refine r_if_eq (tgt := 28) dX6_tells_5 (by decide) (fun hqz => absurd hqz (by decide)) (fun _ => ?_)
          refine r_aload_n dX6_tells_8 rfl ?_
          refine r_getR dX6_tells_9 fl_X6_10 (ly_0 hEc) rfl ?_
          refine r_iload_n dX6_tells_12 rfl ?_
          refine r_callV1 dX6_tells_13 lk_X6_125 (ly_1 hEc) rfl (Nat.le_of_ble_eq_true rfl) (has_t hEc hn (hR.1.2.2.1.trans h60) hp ?_)
          refine r_if_eq (tgt := 28) dX6_tells_16 (by decide) (fun hqz => absurd hqz (by decide)) (fun _ => ?_)
          refine r_iload_n dX6_tells_19 rfl ?_
          refine r_bipush (v := 8) dX6_tells_20 rfl ?_
          refine r_callS2 dX6_tells_22 lk_X6_100 (Nat.le_of_ble_eq_true rfl) (win_t (j := 7) (lim := 8) rfl (by decide) (by decide) ?_)
          refine r_if_ne (tgt := 31) dX6_tells_25 (by decide) (fun _ => ?_) (fun hqz => absurd hqz (by decide))
          refine r_aload_n dX6_tells_31 rfl ?_
          refine r_getR dX6_tells_32 fl_X6_52 (ly_0 hEc) rfl ?_
          refine r_iload_n dX6_tells_35 rfl ?_
          refine r_aaldN dX6_tells_36 (ly_7 hEc) (show s < 4 by omega) (by decide) (ly_7r (by omega)) ?_
          refine r_astore (loc' := [(4, .ref (8 + s)), (0, .ref 0), (1, .int (nI s)), (2, .int (nI p)), (3, .int 7)]) dX6_tells_37 (by decide) rfl ?_
          refine r_aload dX6_tells_39 rfl ?_
          refine r_callV0 dX6_tells_41 lk_X6_246 (ly_sh hEc hs) rfl (Nat.le_of_ble_eq_true rfl) (mis_f hEc hs (by rw [e1]; exact m1) ?_)
          refine r_if_eq (tgt := 50) dX6_tells_44 (by decide) (fun _ => ?_) (fun hqz => absurd (by decide) hqz)
          refine r_aload_n dX6_tells_50 rfl ?_
          refine r_getR dX6_tells_51 fl_X6_38 (ly_0 hEc) rfl ?_
          refine r_aload_n dX6_tells_54 rfl ?_
          refine r_getR dX6_tells_55 fl_X6_10 (ly_0 hEc) rfl ?_
          refine r_iload_n dX6_tells_58 rfl ?_
          refine r_callV2 dX6_tells_59 lk_X6_128 (ly_5 hEc) rfl (Nat.le_of_ble_eq_true rfl) (co_of hEc hW hR hp (fun A1 f1 hc hR1 => ?_))
          refine r_aload_n dX6_tells_62 rfl ?_
          refine r_getR dX6_tells_63 fl_X6_10 (ly_0 hEc) rfl ?_
          refine r_iload_n dX6_tells_66 rfl ?_
          refine r_callV1 dX6_tells_67 lk_X6_132 (ly_1 hEc) rfl (Nat.le_of_ble_eq_true rfl) (co_an hEc hW hR1 hp ?_)
          have hh1 := hh.fr hs (f1.mo (by decide))
          refine r_topi (fun v70 e70 => ?_)
          refine r_istore (loc' := [(5, .int v70), (4, .ref (8 + s)), (0, .ref 0), (1, .int (nI s)), (2, .int (nI p)), (3, .int 7)]) dX6_tells_70 (by decide) rfl ?_
          refine r_iload_n dX6_tells_72 rfl ?_
          refine r_tableOut (tgt := 175) dX6_tells_73 (by decide) (by decide) ?_
          refine r_aload_n dX6_tells_175 rfl ?_
          refine r_aload dX6_tells_176 rfl ?_
          refine r_callV1 dX6_tells_178 lk_X6_273 (ly_0 hEc) rfl (Nat.le_of_ble_eq_true rfl) (sp_fp hs hy hEc hW hR1 hh1 (fun A2 f2 => ?_))
          refine r_ireturn dX6_tells_181 rfl rfl ?_
          skip
          exact hk A2 (hR1.fr (f2.mo (by decide))) (hi2 (f526 f1) (Fr.hi f2 (by decide)))
        · skip
          refine qC.enter (by decide) (Nat.le_of_ble_eq_true rfl) ?_
          refine r_iload_n dX7_tells_0 rfl ?_
          refine r_callS1 dX7_tells_1 lk_X7_254 (Nat.le_of_ble_eq_true rfl) (iss_t hE hs ?_)
          refine r_if_eq (tgt := 25) dX7_tells_4 (by decide) (fun hqz => absurd hqz (by decide)) (fun _ => ?_)
          refine r_aload_n dX7_tells_7 rfl ?_
          refine r_iload_n dX7_tells_8 rfl ?_
          refine r_callV1 dX7_tells_9 lk_X7_82 (ly_38 hE) rfl (Nat.le_of_ble_eq_true rfl) (isP_t hE hn (by rw [hR.1]; exact h60) hp ?_)
          refine r_if_eq (tgt := 25) dX7_tells_12 (by decide) (fun hqz => absurd hqz (by decide)) (fun _ => ?_)
          refine r_iload_n dX7_tells_15 rfl ?_
          refine r_iconst (v := 0) dX7_tells_16 rfl ?_
          refine r_bipush (v := 7) dX7_tells_17 rfl ?_
          refine r_callS3 dX7_tells_19 lk_X7_78 (Nat.le_of_ble_eq_true rfl) (in_t (j := 7) (lim := 8) rfl rfl (by decide) (by decide) ?_)
          refine r_if_ne (tgt := 28) dX7_tells_22 (by decide) (fun _ => ?_) (fun hqz => absurd hqz (by decide))
          refine r_aload_n dX7_tells_28 rfl ?_
          refine r_getR dX7_tells_29 fl_X7_63 (ly_38 hE) rfl ?_
          refine r_iload_n dX7_tells_32 rfl ?_
          refine r_ialdN dX7_tells_33 (ly_53 hE) (by omega) (by decide) ?_
          refine r_iconst (v := (-1)) dX7_tells_34 rfl ?_
          refine r_icmp_ne (tgt := 41) dX7_tells_35 (by decide) (fun _ => ?_) (fun hqz => absurd hqz (by rw [r53]; exact m1))
          refine r_aload_n dX7_tells_41 rfl ?_
          refine r_iload_n dX7_tells_42 rfl ?_
          refine r_callV1 dX7_tells_43 lk_X7_97 (ly_38 hE) rfl (Nat.le_of_ble_eq_true rfl) (mo_take hE hW hR hp (fun A1 f1 fm hm => ?_))
          refine r_aload_n dX7_tells_46 rfl ?_
          refine r_iload_n dX7_tells_47 rfl ?_
          refine r_callV1 dX7_tells_48 lk_X7_101 (ly_38 hE) rfl (Nat.le_of_ble_eq_true rfl) (mo_an hE hW hm.rm hp ?_)
          refine r_topi (fun v51 e51 => ?_)
          refine r_istore (loc' := [(4, .int v51), (0, .ref 38), (1, .int (nI s)), (2, .int (nI p)), (3, .int 7)]) dX7_tells_51 (by decide) rfl ?_
          refine r_iload_n dX7_tells_53 rfl ?_
          refine r_if_ne (tgt := 65) dX7_tells_54 (by decide) (fun _ => ?_) (fun hqz => absurd hqz (by decide))
          refine r_iload_n dX7_tells_65 rfl ?_
          refine r_iconst (v := 3) dX7_tells_66 rfl ?_
          refine r_icmp_eq (tgt := 75) dX7_tells_67 (by decide) (fun hqz => absurd hqz (by decide)) (fun _ => ?_)
          refine r_iload_n dX7_tells_70 rfl ?_
          refine r_iconst (v := 4) dX7_tells_71 rfl ?_
          refine r_icmp_ne (tgt := 91) dX7_tells_72 (by decide) (fun _ => ?_) (fun hqz => absurd hqz (by decide))
          refine r_iload_n dX7_tells_91 rfl ?_
          refine r_iconst (v := 1) dX7_tells_92 rfl ?_
          refine r_icmp_eq (tgt := 102) dX7_tells_93 (by decide) (fun hqz => absurd hqz (by decide)) (fun _ => ?_)
          refine r_iload_n dX7_tells_96 rfl ?_
          refine r_bipush (v := 6) dX7_tells_97 rfl ?_
          refine r_icmp_ne (tgt := 107) dX7_tells_99 (by decide) (fun _ => ?_) (fun hqz => absurd hqz (by decide))
          refine r_iload_n dX7_tells_107 rfl ?_
          refine r_iconst (v := 2) dX7_tells_108 rfl ?_
          refine r_icmp_ne (tgt := 117) dX7_tells_109 (by decide) (fun _ => ?_) (fun hqz => absurd hqz (by decide))
          refine r_iload_n dX7_tells_117 rfl ?_
          refine r_iconst (v := 5) dX7_tells_118 rfl ?_
          refine r_icmp_ne (tgt := 129) dX7_tells_119 (by decide) (fun _ => ?_) (fun hqz => absurd hqz (by decide))
          refine r_aload_n dX7_tells_129 rfl ?_
          refine r_callV0 dX7_tells_130 lk_X7_94 (ly_38 hE) rfl (Nat.le_of_ble_eq_true rfl) (sp_X7_many hE ?_)
          refine r_rw (y := nI n) (by rw [hm.rm.1]; exact h60) ?_
          refine r_istore (loc' := [(5, .int (nI n)), (4, .int v51), (0, .ref 38), (1, .int (nI s)), (2, .int (nI p)), (3, .int 7)]) dX7_tells_133 (by decide) rfl ?_
          refine r_iconst (v := 0) dX7_tells_135 rfl ?_
          refine r_istore (loc' := [(6, .int 0), (5, .int (nI n)), (4, .int v51), (0, .ref 38), (1, .int (nI s)), (2, .int (nI p)), (3, .int 7)]) dX7_tells_136 (by decide) rfl ?_
          refine r_iconst (v := 0) dX7_tells_138 rfl ?_
          refine r_istore (loc' := [(7, .int 0), (6, .int 0), (5, .int (nI n)), (4, .int v51), (0, .ref 38), (1, .int (nI s)), (2, .int (nI p)), (3, .int 7)]) dX7_tells_139 (by decide) rfl ?_
          refine qG.pick [0, 1, 2, 3, 4, 5, 6, 7] rfl ?_
          subst e51
          exact mt_loop7 hE hW hs hy e54 hp n 0 0 A1 (by omega) hm.rm (fun A2 f2 => hk A2 (fm.tr f2))
  · refine ⟨.int (-2), S, T, n, z, ⟨_, rfl⟩, hW, fun A L Ph hR hk => ?_, fun A L Ph hR hk => ?_⟩
    · have K := hk A L hR (fun _ _ => rfl)
      refine qC.enter (by decide) (Nat.le_of_ble_eq_true rfl) ?_
      refine r_iload_n dX6_tells_0 rfl ?_
      refine r_iconst (v := 4) dX6_tells_1 rfl ?_
      refine r_callS2 dX6_tells_2 lk_X6_100 (Nat.le_of_ble_eq_true rfl) (sp_X6_within 4 rfl (by decide) (fun s hs es => ?_) (fun _ => ?_))
      · refine r_if_eq (tgt := 28) dX6_tells_5 (by decide) (fun hqz => absurd hqz (by decide)) (fun _ => ?_)
        refine r_aload_n dX6_tells_8 rfl ?_
        refine r_getR dX6_tells_9 fl_X6_10 (ly_0 hEc) rfl ?_
        refine r_iload_n dX6_tells_12 rfl ?_
        refine r_callV1 dX6_tells_13 lk_X6_125 (ly_1 hEc) rfl (Nat.le_of_ble_eq_true rfl) (sp_X2_has hEc n hn (hR.1.2.2.1.trans h60) (fun p hp ep => ?_) (fun _ => ?_))
        · refine r_if_eq (tgt := 28) dX6_tells_16 (by decide) (fun hqz => absurd hqz (by decide)) (fun _ => ?_)
          refine r_iload_n dX6_tells_19 rfl ?_
          refine r_bipush (v := 8) dX6_tells_20 rfl ?_
          refine r_callS2 dX6_tells_22 lk_X6_100 (Nat.le_of_ble_eq_true rfl) (win_f 8 rfl (by decide) (fun y hy ey => hb ⟨⟨s, hs, es⟩, ⟨p, hp, ep⟩, ⟨y, hy, ey⟩⟩) ?_)
          refine r_if_ne (tgt := 31) dX6_tells_25 (by decide) (fun hqz => absurd (by decide) hqz) (fun _ => ?_)
          refine r_bipush (v := (-2)) dX6_tells_28 rfl ?_
          refine r_ireturn dX6_tells_30 rfl rfl ?_
          exact K
        · refine r_if_eq (tgt := 28) dX6_tells_16 (by decide) (fun _ => ?_) (fun hqz => absurd (by decide) hqz)
          refine r_bipush (v := (-2)) dX6_tells_28 rfl ?_
          refine r_ireturn dX6_tells_30 rfl rfl ?_
          exact K
      · refine r_if_eq (tgt := 28) dX6_tells_5 (by decide) (fun _ => ?_) (fun hqz => absurd (by decide) hqz)
        refine r_bipush (v := (-2)) dX6_tells_28 rfl ?_
        refine r_ireturn dX6_tells_30 rfl rfl ?_
        exact K
    · have K := hk A L hR (fun _ _ => rfl)
      by_cases h1 : ∃ s, s < 4 ∧ sv = nI s
      · obtain ⟨s, hs, rfl⟩ := h1
        refine qC.enter (by decide) (Nat.le_of_ble_eq_true rfl) ?_
        refine r_iload_n dX7_tells_0 rfl ?_
        refine r_callS1 dX7_tells_1 lk_X7_254 (Nat.le_of_ble_eq_true rfl) (iss_t hE hs ?_)
        refine r_if_eq (tgt := 25) dX7_tells_4 (by decide) (fun hqz => absurd hqz (by decide)) (fun _ => ?_)
        refine r_aload_n dX7_tells_7 rfl ?_
        refine r_iload_n dX7_tells_8 rfl ?_
        refine r_callV1 dX7_tells_9 lk_X7_82 (ly_38 hE) rfl (Nat.le_of_ble_eq_true rfl) (sp_X7_isPair hE n hn (by rw [hR.1]; exact h60) (fun p hp ep => ?_) (fun _ => ?_))
        · refine r_if_eq (tgt := 25) dX7_tells_12 (by decide) (fun hqz => absurd hqz (by decide)) (fun _ => ?_)
          refine r_iload_n dX7_tells_15 rfl ?_
          refine r_iconst (v := 0) dX7_tells_16 rfl ?_
          refine r_bipush (v := 7) dX7_tells_17 rfl ?_
          refine r_callS3 dX7_tells_19 lk_X7_78 (Nat.le_of_ble_eq_true rfl) (in_f 8 rfl rfl (by decide) (fun q hq eq => hb ⟨⟨s, hs, rfl⟩, ⟨p, hp, ep⟩, ⟨q, hq, eq⟩⟩) ?_)
          refine r_if_ne (tgt := 28) dX7_tells_22 (by decide) (fun hqz => absurd (by decide) hqz) (fun _ => ?_)
          refine r_bipush (v := (-2)) dX7_tells_25 rfl ?_
          refine r_ireturn dX7_tells_27 rfl rfl ?_
          exact K
        · refine r_if_eq (tgt := 25) dX7_tells_12 (by decide) (fun _ => ?_) (fun hqz => absurd (by decide) hqz)
          refine r_bipush (v := (-2)) dX7_tells_25 rfl ?_
          refine r_ireturn dX7_tells_27 rfl rfl ?_
          exact K
      · skip
        refine qC.enter (by decide) (Nat.le_of_ble_eq_true rfl) ?_
        refine r_iload_n dX7_tells_0 rfl ?_
        refine r_callS1 dX7_tells_1 lk_X7_254 (Nat.le_of_ble_eq_true rfl) (iss_f hE (fun q hq eq => h1 ⟨q, hq, eq⟩) ?_)
        refine r_if_eq (tgt := 25) dX7_tells_4 (by decide) (fun _ => ?_) (fun hqz => absurd (by decide) hqz)
        refine r_bipush (v := (-2)) dX7_tells_25 rfl ?_
        refine r_ireturn dX7_tells_27 rfl rfl ?_
        exact K
end OPS15
