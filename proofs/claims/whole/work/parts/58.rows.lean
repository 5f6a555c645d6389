/-! by how many rows of words -/
def cw (g : Nat → Nat → Nat) (a b : Nat) : Nat → Nat
  | 0 => 0
  | k + 1 => cw g a b k + (if g a k = b then 1 else 0)
def wy (g : Nat → Nat → Nat) (a0 N : Nat) : Nat → Nat → Nat
  | 0, a => if a = a0 then 1 else 0
  | n + 1, b => sm (fun a => cw g a b 6 * wy g a0 N n a) N
def ac (g : Nat → Nat → Nat) (x W : Nat → Nat) (i w b : Nat) : Nat := sm (fun j => cw g (x j) b 6 * W (x j)) i + cw g (x i) b w * W (x i)
theorem ac_0 {g : Nat → Nat → Nat} {x W : Nat → Nat} {b : Nat} : ac g x W 0 0 b = 0 := by
  unfold ac
  rw [sm, cw, Nat.zero_mul]
theorem ac_next {g : Nat → Nat → Nat} {x W : Nat → Nat} {i b : Nat} : ac g x W (i + 1) 0 b = ac g x W i 6 b := by
  unfold ac
  rw [sm, cw, Nat.zero_mul, Nat.add_zero]
theorem ac_hit {g : Nat → Nat → Nat} {x W : Nat → Nat} {i w b : Nat} (h : g (x i) w = b) : ac g x W i (w + 1) b = ac g x W i w b + W (x i) := by
  unfold ac
  rw [cw, if_pos h, Nat.succ_mul, Nat.add_assoc]
theorem ac_mis {g : Nat → Nat → Nat} {x W : Nat → Nat} {i w b : Nat} (h : ¬ g (x i) w = b) : ac g x W i (w + 1) b = ac g x W i w b := by
  unfold ac
  rw [cw, if_neg h, Nat.add_zero]
theorem ac_end {g : Nat → Nat → Nat} {x W : Nat → Nat} {i b : Nat} : ac g x W i 0 b = sm (fun j => cw g (x j) b 6 * W (x j)) i := by
  unfold ac
  rw [cw, Nat.zero_mul, Nat.add_zero]
theorem sm_zero {f : Nat → Nat} : ∀ n, (∀ a, a < n → f a = 0) → sm f n = 0 := by
  intro n
  induction n with
  | zero => intro _; rfl
  | succ n ih =>
    intro h
    rw [sm, ih (fun a ha => h a (by omega)), h n (by omega)]
theorem sm_add {f h : Nat → Nat} : ∀ n, sm (fun a => f a + h a) n = sm f n + sm h n := by
  intro n
  induction n with
  | zero => rfl
  | succ n ih => rw [sm, sm, sm, ih]; omega
theorem sm_mul {f : Nat → Nat} {c : Nat} : ∀ n, sm (fun a => f a * c) n = sm f n * c := by
  intro n
  induction n with
  | zero => rw [sm, sm, Nat.zero_mul]
  | succ n ih => rw [sm, sm, ih, Nat.add_mul]
theorem sm_mulL {f : Nat → Nat} {c : Nat} : ∀ n, sm (fun a => c * f a) n = c * sm f n := by
  intro n
  induction n with
  | zero => rw [sm, sm, Nat.mul_zero]
  | succ n ih => rw [sm, sm, ih, Nat.mul_add]
theorem sm_swap {F : Nat → Nat → Nat} {N : Nat} : ∀ M, sm (fun b => sm (fun a => F a b) N) M = sm (fun a => sm (fun b => F a b) M) N := by
  intro M
  induction M with
  | zero =>
    rw [sm]
    exact (sm_zero N (fun a _ => rfl)).symm
  | succ M ih =>
    rw [sm, ih, ← sm_add]
    apply sm_cong
    intro a _
    rfl
theorem sm_le2 {f h : Nat → Nat} : ∀ n, (∀ a, a < n → f a ≤ h a) → sm f n ≤ sm h n := by
  intro n
  induction n with
  | zero => intro _; exact Nat.le_refl _
  | succ n ih =>
    intro e
    have := ih (fun a ha => e a (by omega))
    have := e n (by omega)
    rw [sm, sm]
    omega
theorem sm_ind {c n : Nat} (hc : c < n) : sm (fun b => if c = b then 1 else 0) n = 1 := by
  have := sm_one (f := fun _ => 0) (h := fun b => if c = b then 1 else 0) (a := c) (fun x hx => if_neg (fun z => hx z.symm)) n hc
  rw [sm_zero (f := fun _ => 0) n (fun _ _ => rfl), if_pos rfl] at this
  omega
theorem cw_tot {g : Nat → Nat → Nat} {a N : Nat} (hg : ∀ w, w < 6 → g a w < N) : ∀ k, k ≤ 6 → sm (fun b => cw g a b k) N = k := by
  intro k
  induction k with
  | zero => intro _; exact sm_zero N (fun _ _ => rfl)
  | succ k ih =>
    intro hk
    have e := sm_add (f := fun b => cw g a b k) (h := fun b => if g a k = b then 1 else 0) N
    rw [ih (by omega), sm_ind (hg k (by omega))] at e
    exact e
theorem wy_tot {g : Nat → Nat → Nat} {a0 N : Nat} (hg : ∀ a w, a < N → w < 6 → g a w < N) (h0 : a0 < N) : ∀ n, sm (wy g a0 N n) N = 6 ^ n := by
  intro n
  induction n with
  | zero =>
    have := sm_ind h0
    rw [Nat.pow_zero, ← this]
    apply sm_cong
    intro a _
    show (if a = a0 then 1 else 0) = if a0 = a then 1 else 0
    by_cases e : a = a0
    · rw [if_pos e, if_pos e.symm]
    · rw [if_neg e, if_neg (fun z => e z.symm)]
  | succ n ih =>
    show sm (fun b => sm (fun a => cw g a b 6 * wy g a0 N n a) N) N = _
    rw [sm_swap, Nat.pow_succ, Nat.mul_comm, ← ih, ← sm_mulL]
    apply sm_cong
    intro a ha
    rw [sm_mul, cw_tot (fun w hw => hg a w ha hw) 6 (Nat.le_refl _)]
theorem cw_pos {g : Nat → Nat → Nat} {a b : Nat} : ∀ k, cw g a b k ≠ 0 → ∃ w, w < k ∧ g a w = b := by
  intro k
  induction k with
  | zero => intro h; exact absurd rfl h
  | succ k ih =>
    intro h
    by_cases e : g a k = b
    · exact ⟨k, by omega, e⟩
    · rw [cw, if_neg e, Nat.add_zero] at h
      obtain ⟨w, hw, e⟩ := ih h
      exact ⟨w, by omega, e⟩
theorem wy_un {g : Nat → Nat → Nat} {a0 N : Nat} : ∀ n b, (∀ K, ¬ en g a0 K = b) → wy g a0 N n b = 0 := by
  intro n
  induction n with
  | zero =>
    intro b hb
    exact if_neg (fun z => hb 0 (by rw [en_0]; exact z.symm))
  | succ n ih =>
    intro b hb
    show sm (fun a => cw g a b 6 * wy g a0 N n a) N = 0
    apply sm_zero
    intro a _
    by_cases e : cw g a b 6 = 0
    · rw [e, Nat.zero_mul]
    · obtain ⟨w, hw, e⟩ := cw_pos 6 e
      rw [ih a (fun K hK => hb (6 * K + w + 1) (by rw [en_s hw, hK, e])), Nat.mul_zero]
/-- a sum over some places, each once -/
theorem sm_inj {x f : Nat → Nat} {N : Nat} : ∀ m, (∀ i, i < m → x i < N) → (∀ i j, i < m → j < m → x i = x j → i = j) → ∃ h : Nat → Nat, sm (fun i => f (x i)) m = sm h N ∧ (∀ i, i < m → h (x i) = f (x i)) ∧ ∀ a, (∀ i, i < m → x i ≠ a) → h a = 0 := by
  intro m
  induction m with
  | zero => intro _ _; exact ⟨fun _ => 0, (sm_zero N (fun _ _ => rfl)).symm, fun i hi => absurd hi (Nat.not_lt_zero _), fun _ _ => rfl⟩
  | succ m ih =>
    intro hx hi
    obtain ⟨h, e, h1, h2⟩ := ih (fun i hi' => hx i (by omega)) (fun i j a b => hi i j (by omega) (by omega))
    have hm := h2 (x m) (fun i hi' z => by have := hi i m (by omega) (by omega) z; omega)
    have k := sm_one (f := h) (h := fun a => if a = x m then f (x m) else h a) (a := x m) (fun y hy => if_neg hy) N (hx m (by omega))
    refine ⟨fun a => if a = x m then f (x m) else h a, ?_, fun i hi' => ?_, fun a ha => ?_⟩
    · rw [sm, e]
      rw [hm, if_pos rfl] at k
      exact k.symm
    · show (if x i = x m then f (x m) else h (x i)) = f (x i)
      by_cases q : x i = x m
      · rw [if_pos q, q]
      · rw [if_neg q]
        refine h1 i ?_
        rcases Nat.lt_or_ge i m with z | z
        · exact z
        · exact absurd (by rw [show i = m by omega]) q
    · show (if a = x m then f (x m) else h a) = 0
      rw [if_neg (fun z => ha m (by omega) z.symm)]
      exact h2 a (fun i hi' => ha i (by omega))
theorem RS.sum {A S : mA} {T n z p sz N : Nat} {ks x : Nat → Nat} (hN : N = 100) (hW : WfS S T n z) (hp : p < n) (h : RS A S p sz ks) (hx : ∀ j, x j = eP S p (ks j)) {f : Nat → Nat} (hf : ∀ b, (∀ K, ¬ eP S p K = b) → f b = 0) : sm (fun i => f (x i)) sz = sm f N := by
  obtain ⟨k, e, k1, k2⟩ := sm_inj (f := f) (x := x) (N := N) sz (fun i _ => by rw [hx, hN]; exact eP_lt hW hp _) (fun i j hi hj q => h.1.2.2.2.2.1 i j hi hj (by rw [hx, hx] at q; exact q))
  rw [e]
  apply sm_cong
  intro a _
  by_cases q : ∃ i, i < sz ∧ x i = a
  · obtain ⟨i, hi, e⟩ := q
    rw [← e]
    exact k1 i hi
  · rw [k2 a (fun i hi e => q ⟨i, hi, e⟩), hf a]
    intro K hK
    obtain ⟨j, hj, e, -⟩ := h.2.1 K
    exact q ⟨j, hj, by rw [hx, ← e]; exact hK⟩
abbrev wP (S : mA) (p N n a : Nat) : Nat := wy (gP S p) (aP S p) N n a
def gq (S : mA) (p N n : Nat) (kv : Int32) (a : Nat) : Nat := if kv ≤ farP S p (nI a) then wP S p N n a else 0
theorem gq_le {S : mA} {p N n : Nat} {kv : Int32} (hN : N = 100) (ha : aP S p < 100) : sm (gq S p N n kv) N ≤ 6 ^ n := by
  rw [← wy_tot (g := gP S p) (a0 := aP S p) (N := N) (fun a w _ _ => by rw [hN]; exact (gP_ok S p a w).1) (by rw [hN]; exact ha) n]
  apply sm_le2
  intro a _
  unfold gq
  split
  · exact Nat.le_refl _
  · exact Nat.zero_le _
theorem gq0 {S : mA} {p N n a : Nat} {kv : Int32} (h : farP S p (nI a) < kv) : gq S p N n kv a = 0 := if_neg (fun q => i_nle q h)
theorem gq1 {S : mA} {p N n a : Nat} {kv : Int32} (h : ¬ farP S p (nI a) < kv) : gq S p N n kv a = wP S p N n a := if_pos (i_nlt h)
theorem sJ_up {L : mJ} {k j : Nat} {g : Nat → Int64} {v : Int64} : sJ (va_up L k g) k j v = va_up L k (vp_updL g j v) := by
  unfold sJ
  rw [va_up_eq, up_up]
theorem fillL_succ (f g : Nat → Int64) (i : Nat) : vp_updL (fa_fill f g i) i (f i) = fa_fill f g (i + 1) := by
  funext k
  unfold vp_updL
  by_cases e : k = i
  · rw [if_pos e, e, fa_fill_in (by omega)]
  · rw [if_neg e]
    rcases Nat.lt_or_ge k i with q | q
    · rw [fa_fill_in q, fa_fill_in (by omega)]
    · rw [fa_fill_out q, fa_fill_out (by omega)]
theorem sJ_same {L : mJ} {k j : Nat} {v : Int64} : sJ L k j v k j = v := by rw [sJ_eq, pk_uLs]
theorem sJ_nj {L : mJ} {k k' j j' : Nat} {v : Int64} (h : k' = k → j' ≠ j) : sJ L k j v k' j' = L k' j' := by
  by_cases e : k' = k
  · subst e
    rw [sJ_eq, pk_uLn (h rfl)]
  · rw [sJ_ne e]
/-- one more is said, word w at place i -/
theorem ac_put {L : mJ} {k : Nat} {g : Nat → Nat → Nat} {x W : Nat → Nat} {i w y N : Nat} (h : ∀ b, b < N → L k b = lN (ac g x W i w b)) (hy : g (x i) w = y) : ∀ b, b < N → sJ L k y (lN (ac g x W i w y + W (x i))) k b = lN (ac g x W i (w + 1) b) := by
  intro b hb
  by_cases e : b = y
  · rw [e, sJ_same, ac_hit hy]
  · rw [sJ_nj (fun _ => e), h b hb, ac_mis (fun z => e (by rw [← z, hy]))]
section RWS
variable {E : mE} {d : Nat} {A S : mA} {L : mJ} {Ph : mP} {T n z p sz N : Nat} {ks x W : Nat → Nat}
set_option maxRecDepth 100000 in
set_option maxHeartbeats 1000000 in
theorem fillL_loop {k : Nat} (hk : (mly E)[k]? = some (.inl (1, 100, []))) {v : Int64} (h : Ph none A (va_up L k (fa_fill (fun _ => v) (L k) 100))) : ∀ (m i : Nat), i + m = 100 → qG E mm_J7_fill_d0a16 d 6 [(4, .int 100), (3, .int (nI i)), (0, .ref k), (1, .long v)] [] A (va_up L k (fa_fill (fun _ => v) (L k) i)) Ph := by
  intro m
  induction m with
  | zero =>
    intro i hi
    have hi : i = 100 := by omega
    subst hi
    refine r_iload_n dJ7_fill_d0a16_6 rfl ?_
    refine r_iload dJ7_fill_d0a16_7 rfl ?_
    refine r_icmp_ge (tgt := 22) dJ7_fill_d0a16_9 (by decide) (fun _ => ?_) (fun hqz => absurd (nI_le (Nat.le_refl 100) (by decide)) hqz)
    refine r_return dJ7_fill_d0a16_22 rfl ?_
    exact h
  | succ m ih =>
    intro i hi
    refine r_iload_n dJ7_fill_d0a16_6 rfl ?_
    refine r_iload dJ7_fill_d0a16_7 rfl ?_
    refine r_icmp_ge (tgt := 22) dJ7_fill_d0a16_9 (by decide) (fun hqz => absurd hqz (nI_ge (show i < 100 by omega) (by decide))) (fun _ => ?_)
    refine r_aload_n dJ7_fill_d0a16_12 rfl ?_
    refine r_iload_n dJ7_fill_d0a16_13 rfl ?_
    refine r_lload_n dJ7_fill_d0a16_14 rfl ?_
    refine r_lastN dJ7_fill_d0a16_15 hk (by omega) (by decide) ?_
    refine r_iinc (v := (nI (i + 1))) (loc' := [(3, .int (nI (i + 1))), (4, .int 100), (0, .ref k), (1, .long v)]) dJ7_fill_d0a16_16 rfl ((nI_succ _).symm) (by decide) rfl ?_
    refine r_goto (tgt := 6) dJ7_fill_d0a16_19 (by decide) ?_
    refine qG.pick [1, 0, 2, 3] rfl ?_
    rw [sJ_up, fillL_succ (fun _ => v)]
    exact ih (i + 1) (by omega)
set_option maxRecDepth 100000 in
set_option maxHeartbeats 1000000 in
theorem sp_fillL {k : Nat} (hk : (mly E)[k]? = some (.inl (1, 100, []))) {v : Int64} (h : Ph none A (va_up L k (fa_fill (fun _ => v) (L k) 100))) : qC E mm_J7_fill_d0a16 d [.ref k, .long v] A L Ph := by
  refine qC.enter (by decide) (Nat.le_of_ble_eq_true rfl) ?_
  refine r_iconst (v := 0) dJ7_fill_d0a16_0 rfl ?_
  refine r_istore_n (loc' := [(3, .int 0), (0, .ref k), (1, .long v)]) dJ7_fill_d0a16_1 (by decide) rfl ?_
  refine r_aload_n dJ7_fill_d0a16_2 rfl ?_
  refine r_alen (v := 100) dJ7_fill_d0a16_3 hk (by decide) rfl ?_
  refine r_istore (loc' := [(4, .int 100), (3, .int 0), (0, .ref k), (1, .long v)]) dJ7_fill_d0a16_4 (by decide) rfl ?_
  refine qG.pick [0, 1, 2, 3] rfl ?_
  have K := fillL_loop (d := d) hk h 100 0 (by decide)
  rw [fa_fill_0, up_self] at K
  exact K
set_option maxRecDepth 100000 in
set_option maxHeartbeats 1000000 in
theorem sy_in (hE : hC E) (hW : WfS S T n z) (hp : p < n) (hrs : RS A S p sz ks) (hx : ∀ j, x j = eP S p (ks j)) {i : Nat} (hi : i < sz) : ∀ (k w : Nat) (L : mJ), w + k = 6 → (∀ a, a < 100 → L 32 a = lN (W a)) → (∀ b, b < 100 → L 33 b = lN (ac (gP S p) x W i w b)) → (∀ L', (∀ a, a < 100 → L' 32 a = lN (W a)) → (∀ b, b < 100 → L' 33 b = lN (ac (gP S p) x W (i + 1) 0 b)) → qG E mm_X0_sayOneMore (d + 1) 84 [(1, .int (nI i)), (0, .ref 6)] [] A L' Ph) → qG E mm_X0_sayOneMore (d + 1) 33 [(3, .int (nI w)), (2, .int (nI (x i))), (1, .int (nI i)), (0, .ref 6)] [] A L Ph := by
  intro k
  induction k with
  | zero =>
    intro w L hw h2 h3 h
    have hw : w = 6 := by omega
    subst hw
    refine r_iload_n dX0_sayOneMore_33 rfl ?_
    refine r_bipush (v := 6) dX0_sayOneMore_34 rfl ?_
    refine r_icmp_ge (tgt := 84) dX0_sayOneMore_36 (by decide) (fun _ => ?_) (fun hqz => absurd (nI_le (Nat.le_refl 6) (by decide)) hqz)
    refine qG.pick [2, 3] rfl ?_
    exact h L h2 (fun b hb => by rw [ac_next]; exact h3 b hb)
  | succ k ih =>
    intro w L hw h2 h3 h
    have hw6 : w < 6 := by omega
    have hx1 : x i < 100 := by rw [hx]; exact eP_lt hW hp _
    obtain ⟨y, hy⟩ : ∃ y, gP S p (x i) w = y := ⟨_, rfl⟩
    have hy1 : y < 100 := by rw [← hy]; exact (gP_ok S p _ w).1
    refine r_iload_n dX0_sayOneMore_33 rfl ?_
    refine r_bipush (v := 6) dX0_sayOneMore_34 rfl ?_
    refine r_icmp_ge (tgt := 84) dX0_sayOneMore_36 (by decide) (fun hqz => absurd hqz (nI_ge hw6 (by decide))) (fun _ => ?_)
    refine r_aload_n dX0_sayOneMore_39 rfl ?_
    refine r_getR dX0_sayOneMore_40 fl_X0_24 (ly_6 hE) rfl ?_
    refine r_iload_n dX0_sayOneMore_43 rfl ?_
    refine r_bipush (v := 6) dX0_sayOneMore_44 rfl ?_
    refine r_imul dX0_sayOneMore_46 ?_
    refine r_iload_n dX0_sayOneMore_47 rfl ?_
    refine r_iadd dX0_sayOneMore_48 ?_
    refine r_rw (y := nI (6 * x i + w)) (show nI (x i) * nI 6 + nI w = _ by rw [pk_mul, nI_add]; congr 1; omega) ?_
    refine r_ialdN dX0_sayOneMore_49 (ly_31 hE) (by omega) (by decide) ?_
    refine r_rw (y := nI y) (by rw [← hy, hx]; exact hrs.2.2 i w hi hw6) ?_
    refine r_istore (loc' := [(4, .int (nI y)), (3, .int (nI w)), (2, .int (nI (x i))), (1, .int (nI i)), (0, .ref 6)]) dX0_sayOneMore_50 (by decide) rfl ?_
    refine r_iload dX0_sayOneMore_52 rfl ?_
    refine r_bipush (v := 100) dX0_sayOneMore_54 rfl ?_
    refine r_callN2 dX0_sayOneMore_56 lk_X0_64 (Nat.le_of_ble_eq_true rfl) (win_t (lim := 100) rfl (by decide) hy1 ?_)
    refine r_if_eq (tgt := 78) dX0_sayOneMore_59 (by decide) (fun hqz => absurd hqz (by decide)) (fun _ => ?_)
    refine r_aload_n dX0_sayOneMore_62 rfl ?_
    refine r_getR dX0_sayOneMore_63 fl_X0_31 (ly_6 hE) rfl ?_
    refine r_iload dX0_sayOneMore_66 rfl ?_
    refine r_dup2 dX0_sayOneMore_68 rfl rfl ?_
    refine r_laldN dX0_sayOneMore_69 (ly_33 hE) (by omega) (by decide) ?_
    refine r_aload_n dX0_sayOneMore_70 rfl ?_
    refine r_getR dX0_sayOneMore_71 fl_X0_27 (ly_6 hE) rfl ?_
    refine r_iload_n dX0_sayOneMore_74 rfl ?_
    refine r_laldN dX0_sayOneMore_75 (ly_32 hE) (by omega) (by decide) ?_
    refine r_ladd dX0_sayOneMore_76 ?_
    refine r_rwl (y := lN (ac (gP S p) x W i w y + W (x i))) (by rw [h3 y hy1, h2 _ hx1, lN_add]) ?_
    refine r_lastN dX0_sayOneMore_77 (ly_33 hE) (by omega) (by decide) ?_
    refine r_iinc (v := (nI (w + 1))) (loc' := [(3, .int (nI (w + 1))), (4, .int (nI y)), (2, .int (nI (x i))), (1, .int (nI i)), (0, .ref 6)]) dX0_sayOneMore_78 rfl ((nI_succ _).symm) (by decide) rfl ?_
    refine r_goto (tgt := 33) dX0_sayOneMore_81 (by decide) ?_
    refine qG.pick [0, 2, 3, 4] rfl ?_
    exact ih (w + 1) _ (by omega) (fun a ha => by rw [sJ_ne (by decide)]; exact h2 a ha) (ac_put h3 hy) h
set_option maxRecDepth 100000 in
set_option maxHeartbeats 1000000 in
theorem sy_loop (hE : hC E) (hW : WfS S T n z) (hp : p < n) (hrs : RS A S p sz ks) (hx : ∀ j, x j = eP S p (ks j)) : ∀ (k i : Nat) (L : mJ), i + k = sz → (∀ a, a < 100 → L 32 a = lN (W a)) → (∀ b, b < 100 → L 33 b = lN (ac (gP S p) x W i 0 b)) → (∀ L', (∀ b, b < 100 → L' 32 b = lN (ac (gP S p) x W sz 0 b)) → Ph none A L') → qG E mm_X0_sayOneMore (d + 1) 10 [(1, .int (nI i)), (0, .ref 6)] [] A L Ph := by
  have hs := hrs.1.2.1.2.1
  intro k
  induction k with
  | zero =>
    intro i L hi h2 h3 h
    have hi : i = sz := by omega
    rw [hi] at h3 ⊢
    refine r_iload_n dX0_sayOneMore_10 rfl ?_
    refine r_aload_n dX0_sayOneMore_11 rfl ?_
    refine r_getI dX0_sayOneMore_12 fl_X0_46 (ly_6 hE) rfl ?_
    refine r_rw (y := nI sz) hrs.1.1 ?_
    refine r_icmp_ge (tgt := 90) dX0_sayOneMore_15 (by decide) (fun _ => ?_) (fun hqz => absurd (nI_le (Nat.le_refl _) (by omega)) hqz)
    refine r_aload_n dX0_sayOneMore_90 rfl ?_
    refine r_getR dX0_sayOneMore_91 fl_X0_31 (ly_6 hE) rfl ?_
    refine r_iconst (v := 0) dX0_sayOneMore_94 rfl ?_
    refine r_aload_n dX0_sayOneMore_95 rfl ?_
    refine r_getR dX0_sayOneMore_96 fl_X0_27 (ly_6 hE) rfl ?_
    refine r_iconst (v := 0) dX0_sayOneMore_99 rfl ?_
    refine r_bipush (v := 100) dX0_sayOneMore_100 rfl ?_
    refine r_copyl (sp := 0) (dp := 0) (n := 100) dX0_sayOneMore_102 lac_X0_88 (ly_33 hE) (ly_32 hE) (by decide) (by decide) (by decide) (by decide) (Nat.le_of_ble_eq_true rfl) ?_
    refine r_return dX0_sayOneMore_105 rfl ?_
    exact h _ (fun b hb => by rw [va_up_eq, pk_cpy_in (Nat.zero_le _) (by omega), Nat.zero_add, Nat.sub_zero]; exact h3 b hb)
  | succ k ih =>
    intro i L hi h2 h3 h
    have hi1 : i < sz := by omega
    refine r_iload_n dX0_sayOneMore_10 rfl ?_
    refine r_aload_n dX0_sayOneMore_11 rfl ?_
    refine r_getI dX0_sayOneMore_12 fl_X0_46 (ly_6 hE) rfl ?_
    refine r_rw (y := nI sz) hrs.1.1 ?_
    refine r_icmp_ge (tgt := 90) dX0_sayOneMore_15 (by decide) (fun hqz => absurd hqz (nI_ge hi1 (by omega))) (fun _ => ?_)
    refine r_iload_n dX0_sayOneMore_18 rfl ?_
    refine r_bipush (v := 100) dX0_sayOneMore_19 rfl ?_
    refine r_icmp_ge (tgt := 90) dX0_sayOneMore_21 (by decide) (fun hqz => absurd hqz (nI_ge (show i < 100 by omega) (by decide))) (fun _ => ?_)
    refine r_aload_n dX0_sayOneMore_24 rfl ?_
    refine r_getR dX0_sayOneMore_25 fl_X0_9 (ly_6 hE) rfl ?_
    refine r_iload_n dX0_sayOneMore_28 rfl ?_
    refine r_ialdN dX0_sayOneMore_29 (ly_27 hE) (by omega) (by decide) ?_
    refine r_rw (y := nI (x i)) (by rw [hx]; exact hrs.1.2.2.1 i hi1) ?_
    refine r_istore_n (loc' := [(2, .int (nI (x i))), (1, .int (nI i)), (0, .ref 6)]) dX0_sayOneMore_30 (by decide) rfl ?_
    refine r_iconst (v := 0) dX0_sayOneMore_31 rfl ?_
    refine r_istore_n (loc' := [(3, .int 0), (2, .int (nI (x i))), (1, .int (nI i)), (0, .ref 6)]) dX0_sayOneMore_32 (by decide) rfl ?_
    refine qG.pick [0, 1, 2, 3] rfl ?_
    refine sy_in hE hW hp hrs hx hi1 6 0 L (by omega) h2 h3 (fun L1 k2 k3 => ?_)
    refine r_iinc (v := (nI (i + 1))) (loc' := [(1, .int (nI (i + 1))), (0, .ref 6)]) dX0_sayOneMore_84 rfl ((nI_succ _).symm) (by decide) rfl ?_
    refine r_goto (tgt := 10) dX0_sayOneMore_87 (by decide) ?_
    refine qG.pick [0, 1] rfl ?_
    exact ih (i + 1) L1 (by omega) k2 k3 h
set_option maxRecDepth 100000 in
set_option maxHeartbeats 1000000 in
theorem sp_sayOneMore (hE : hC E) (hW : WfS S T n z) (hp : p < n) (hrs : RS A S p sz ks) (hx : ∀ j, x j = eP S p (ks j)) (h2 : ∀ a, a < 100 → L 32 a = lN (W a)) (h : ∀ L', (∀ b, b < 100 → L' 32 b = lN (ac (gP S p) x W sz 0 b)) → Ph none A L') : qC E mm_X0_sayOneMore (d + 1) [.ref 6] A L Ph := by
  refine qC.enter (by decide) (Nat.le_of_ble_eq_true rfl) ?_
  refine r_aload_n dX0_sayOneMore_0 rfl ?_
  refine r_getR dX0_sayOneMore_1 fl_X0_31 (ly_6 hE) rfl ?_
  refine r_lconst (v := 0) dX0_sayOneMore_4 rfl ?_
  refine r_callS2 dX0_sayOneMore_5 lk_X0_82 (Nat.le_of_ble_eq_true rfl) (sp_fillL (ly_33 hE) ?_)
  refine r_iconst (v := 0) dX0_sayOneMore_8 rfl ?_
  refine r_istore_n (loc' := [(1, .int 0), (0, .ref 6)]) dX0_sayOneMore_9 (by decide) rfl ?_
  refine qG.pick [0, 1] rfl ?_
  exact sy_loop hE hW hp hrs hx sz 0 _ (by omega) (fun a ha => by rw [va_up_no (by decide)]; exact h2 a ha) (fun b hb => by rw [va_up_eq, fa_fill_in hb, ac_0]; rfl) h
set_option maxRecDepth 100000 in
set_option maxHeartbeats 1000000 in
theorem rs_sum (hW : WfS S T n z) (hp : p < n) (hx : ∀ j, x j = eP S p (ks j)) {kv : Int32} {m : Nat} (h2 : ∀ a, a < 100 → L 32 a = lN (wP S p N m a)) : ∀ (k i : Nat) (A : mA), i + k = sz → CE E A S T (rF S) (kdP S p) (nrP S p) → RS A S p sz ks → (∀ A', FrT A A' → Ph (some (.long (lN (sm (fun j => gq S p N m kv (x j)) sz)))) A' L) → qG E mm_X0_rowsTo (d + 3) 45 [(6, .int (nI i)), (4, .long (lN (sm (fun j => gq S p N m kv (x j)) i))), (0, .ref 6), (1, .ref 5), (2, .int kv), (3, .int (nI m))] [] A L Ph := by
  intro k
  induction k with
  | zero =>
    intro i A hi hc hrs h
    have hE := hc.1
    have hs := hrs.1.2.1.2.1
    have hi : i = sz := by omega
    rw [hi]
    refine r_iload dX0_rowsTo_45 rfl ?_
    refine r_aload_n dX0_rowsTo_47 rfl ?_
    refine r_getI dX0_rowsTo_48 fl_X0_46 (ly_6 hE) rfl ?_
    refine r_rw (y := nI sz) hrs.1.1 ?_
    refine r_icmp_ge (tgt := 103) dX0_rowsTo_51 (by decide) (fun _ => ?_) (fun hqz => absurd (nI_le (Nat.le_refl _) (by omega)) hqz)
    refine r_lload dX0_rowsTo_103 rfl ?_
    refine r_lreturn dX0_rowsTo_105 rfl ?_
    exact h A FrT.rf
  | succ k ih =>
    intro i A hi hc hrs h
    have hE := hc.1
    have hs := hrs.1.2.1.2.1
    have hi1 : i < sz := by omega
    have hx1 : x i < 100 := by rw [hx]; exact eP_lt hW hp _
    have hst := ih (i + 1)
    rw [show sm (fun j => gq S p N m kv (x j)) (i + 1) = sm (fun j => gq S p N m kv (x j)) i + gq S p N m kv (x i) from rfl] at hst
    generalize sm (fun j => gq S p N m kv (x j)) i = c at *
    refine r_iload dX0_rowsTo_45 rfl ?_
    refine r_aload_n dX0_rowsTo_47 rfl ?_
    refine r_getI dX0_rowsTo_48 fl_X0_46 (ly_6 hE) rfl ?_
    refine r_rw (y := nI sz) hrs.1.1 ?_
    refine r_icmp_ge (tgt := 103) dX0_rowsTo_51 (by decide) (fun hqz => absurd hqz (nI_ge hi1 (by omega))) (fun _ => ?_)
    refine r_iload dX0_rowsTo_54 rfl ?_
    refine r_bipush (v := 100) dX0_rowsTo_56 rfl ?_
    refine r_icmp_ge (tgt := 103) dX0_rowsTo_58 (by decide) (fun hqz => absurd hqz (nI_ge (show i < 100 by omega) (by decide))) (fun _ => ?_)
    refine r_lload dX0_rowsTo_61 rfl ?_
    refine r_aload_n dX0_rowsTo_63 rfl ?_
    refine r_aload_n dX0_rowsTo_64 rfl ?_
    refine r_getR dX0_rowsTo_65 fl_X0_9 (ly_6 hE) rfl ?_
    refine r_iload dX0_rowsTo_68 rfl ?_
    refine r_ialdN dX0_rowsTo_70 (ly_27 hE) (by omega) (by decide) ?_
    refine r_rw (y := nI (x i)) (by rw [hx]; exact hrs.1.2.2.1 i hi1) ?_
    refine r_callV1 dX0_rowsTo_71 lk_X0_68 (ly_5 hE) rfl (Nat.le_of_ble_eq_true rfl) (sp_X4_far hc (fun A1 f1 => ?_))
    refine r_iload_n dX0_rowsTo_74 rfl ?_
    refine r_icmp_lt (tgt := 93) dX0_rowsTo_75 (by decide) (fun b75 => ?_) (fun b75 => ?_)
    · refine r_lconst (v := 0) dX0_rowsTo_93 rfl ?_
      refine r_ladd dX0_rowsTo_94 ?_
      first | refine r_rwl (y := lN (c + gq S p N m kv (x i))) (show lN c + lN 0 = _ by rw [gq0 b75, lN_add]) ?_ | refine r_rwl (y := lN (c + gq S p N m kv (x i))) (by rw [gq1 b75, lN_add]) ?_
      refine r_lstore (loc' := [(4, .long (lN (c + gq S p N m kv (x i)))), (6, .int (nI i)), (0, .ref 6), (1, .ref 5), (2, .int kv), (3, .int (nI m))]) dX0_rowsTo_95 (by decide) rfl ?_
      refine r_iinc (v := (nI (i + 1))) (loc' := [(6, .int (nI (i + 1))), (4, .long (lN (c + gq S p N m kv (x i)))), (0, .ref 6), (1, .ref 5), (2, .int kv), (3, .int (nI m))]) dX0_rowsTo_97 rfl ((nI_succ _).symm) (by decide) rfl ?_
      refine r_goto (tgt := 45) dX0_rowsTo_100 (by decide) ?_
      refine qG.pick [0, 1, 2, 3, 4, 5] rfl ?_
      exact hst A1 (by omega) (hc.fr f1) (hrs.t f1.t) (fun A' f => h A' (f1.tr f))
    · refine r_aload_n dX0_rowsTo_78 rfl ?_
      refine r_getR dX0_rowsTo_79 fl_X0_27 (ly_6 hE) rfl ?_
      refine r_aload_n dX0_rowsTo_82 rfl ?_
      refine r_getR dX0_rowsTo_83 fl_X0_9 (ly_6 hE) rfl ?_
      refine r_iload dX0_rowsTo_86 rfl ?_
      refine r_ialdN dX0_rowsTo_88 (ly_27 hE) (by omega) (by decide) ?_
      refine r_rw (y := nI (x i)) (by rw [hx]; exact (hrs.t f1.t).1.2.2.1 i hi1) ?_
      refine r_laldN dX0_rowsTo_89 (ly_32 hE) (by omega) (by decide) ?_
      refine r_rwl (y := lN (wP S p N m (x i))) (h2 _ hx1) ?_
      refine r_goto (tgt := 94) dX0_rowsTo_90 (by decide) ?_
      refine r_ladd dX0_rowsTo_94 ?_
      first | refine r_rwl (y := lN (c + gq S p N m kv (x i))) (show lN c + lN 0 = _ by rw [gq0 b75, lN_add]) ?_ | refine r_rwl (y := lN (c + gq S p N m kv (x i))) (by rw [gq1 b75, lN_add]) ?_
      refine r_lstore (loc' := [(4, .long (lN (c + gq S p N m kv (x i)))), (6, .int (nI i)), (0, .ref 6), (1, .ref 5), (2, .int kv), (3, .int (nI m))]) dX0_rowsTo_95 (by decide) rfl ?_
      refine r_iinc (v := (nI (i + 1))) (loc' := [(6, .int (nI (i + 1))), (4, .long (lN (c + gq S p N m kv (x i)))), (0, .ref 6), (1, .ref 5), (2, .int kv), (3, .int (nI m))]) dX0_rowsTo_97 rfl ((nI_succ _).symm) (by decide) rfl ?_
      refine r_goto (tgt := 45) dX0_rowsTo_100 (by decide) ?_
      refine qG.pick [0, 1, 2, 3, 4, 5] rfl ?_
      exact hst A1 (by omega) (hc.fr f1) (hrs.t f1.t) (fun A' f => h A' (f1.tr f))
set_option maxRecDepth 100000 in
set_option maxHeartbeats 1000000 in
theorem rs_loop (hN : N = 100) (hW : WfS S T n z) (hp : p < n) (hc : CE E A S T (rF S) (kdP S p) (nrP S p)) (hrs : RS A S p sz ks) (hx : ∀ j, x j = eP S p (ks j)) {kv : Int32} {m : Nat} (hm : m ≤ 20) (h : ∀ A' L', FrT A A' → Ph (some (.long (lN (sm (fun j => gq S p N m kv (x j)) sz)))) A' L') : ∀ (k i : Nat) (L : mJ), i + k = m → (∀ a, a < 100 → L 32 a = lN (wP S p N i a)) → qG E mm_X0_rowsTo (d + 3) 23 [(4, .int (nI i)), (0, .ref 6), (1, .ref 5), (2, .int kv), (3, .int (nI m))] [] A L Ph := by
  have hE := hc.1
  intro k
  induction k with
  | zero =>
    intro i L hi h2
    have hi : i = m := by omega
    rw [hi] at h2 ⊢
    refine r_iload dX0_rowsTo_23 rfl ?_
    refine r_iload_n dX0_rowsTo_25 rfl ?_
    refine r_icmp_ge (tgt := 39) dX0_rowsTo_26 (by decide) (fun _ => ?_) (fun hqz => absurd (nI_le (Nat.le_refl _) (by omega)) hqz)
    refine r_lconst (v := 0) dX0_rowsTo_39 rfl ?_
    refine r_lstore (loc' := [(4, .long 0), (0, .ref 6), (1, .ref 5), (2, .int kv), (3, .int (nI m))]) dX0_rowsTo_40 (by decide) rfl ?_
    refine r_iconst (v := 0) dX0_rowsTo_42 rfl ?_
    refine r_istore (loc' := [(6, .int 0), (4, .long 0), (0, .ref 6), (1, .ref 5), (2, .int kv), (3, .int (nI m))]) dX0_rowsTo_43 (by decide) rfl ?_
    refine qG.pick [0, 1, 2, 3, 4, 5] rfl ?_
    exact rs_sum hW hp hx h2 sz 0 A (by omega) hc hrs (fun A' f => h A' L f)
  | succ k ih =>
    intro i L hi h2
    refine r_iload dX0_rowsTo_23 rfl ?_
    refine r_iload_n dX0_rowsTo_25 rfl ?_
    refine r_icmp_ge (tgt := 39) dX0_rowsTo_26 (by decide) (fun hqz => absurd hqz (nI_ge (show i < m by omega) (by omega))) (fun _ => ?_)
    refine r_aload_n dX0_rowsTo_29 rfl ?_
    refine r_callV0 dX0_rowsTo_30 lk_X0_85 (ly_6 hE) rfl (Nat.le_of_ble_eq_true rfl) (sp_sayOneMore hE hW hp hrs hx h2 (fun L1 k2 => ?_))
    refine r_iinc (v := (nI (i + 1))) (loc' := [(4, .int (nI (i + 1))), (0, .ref 6), (1, .ref 5), (2, .int kv), (3, .int (nI m))]) dX0_rowsTo_33 rfl ((nI_succ _).symm) (by decide) rfl ?_
    refine r_goto (tgt := 23) dX0_rowsTo_36 (by decide) ?_
    refine qG.pick [0, 1, 2, 3, 4] rfl ?_
    refine ih (i + 1) L1 (by omega) (fun a ha => ?_)
    rw [k2 a ha, ac_end]
    congr 1
    exact RS.sum hN hW hp hrs hx (f := fun b => cw (gP S p) b a 6 * wP S p N i b) (fun b hb => by show cw _ _ _ _ * wy _ _ _ _ _ = 0; rw [wy_un i b hb, Nat.mul_zero])
set_option maxRecDepth 100000 in
set_option maxHeartbeats 1000000 in
theorem sp_rowsTo (hN : N = 100) (hW : WfS S T n z) (hp : p < n) (hc : CE E A S T (rF S) (kdP S p) (nrP S p)) (hrs : RS A S p sz ks) {kv : Int32} {m : Nat} (hm : m ≤ 20) (h : ∀ A' L', FrT A A' → Ph (some (.long (lN (sm (gq S p N m kv) N)))) A' L') : qC E mm_X0_rowsTo (d + 3) [.ref 6, .ref 5, .int kv, .int (nI m)] A L Ph := by
  have hE := hc.1
  have ha := aP_ok hW hp
  obtain ⟨x, hx⟩ : ∃ x : Nat → Nat, ∀ j, x j = eP S p (ks j) := ⟨fun j => eP S p (ks j), fun _ => rfl⟩
  rw [← RS.sum hN hW hp hrs hx (f := gq S p N m kv) (fun b hb => by unfold gq; split; exact wy_un m b hb; rfl)] at h
  refine qC.enter (by decide) (Nat.le_of_ble_eq_true rfl) ?_
  refine r_aload_n dX0_rowsTo_0 rfl ?_
  refine r_getR dX0_rowsTo_1 fl_X0_27 (ly_6 hE) rfl ?_
  refine r_lconst (v := 0) dX0_rowsTo_4 rfl ?_
  refine r_callS2 dX0_rowsTo_5 lk_X0_82 (Nat.le_of_ble_eq_true rfl) (sp_fillL (ly_32 hE) ?_)
  refine r_aload_n dX0_rowsTo_8 rfl ?_
  refine r_getR dX0_rowsTo_9 fl_X0_27 (ly_6 hE) rfl ?_
  refine r_aload_n dX0_rowsTo_12 rfl ?_
  refine r_getR dX0_rowsTo_13 fl_X0_9 (ly_6 hE) rfl ?_
  refine r_iconst (v := (nI 0)) dX0_rowsTo_16 rfl ?_
  refine r_ialdN dX0_rowsTo_17 (ly_27 hE) (by decide) (by decide) ?_
  refine r_rw (y := nI (aP S p)) ((hrs.1.2.2.1 0 hrs.1.2.1.1).trans (by rw [hrs.1.2.1.2.2, en_0])) ?_
  refine r_lconst (v := 1) dX0_rowsTo_18 rfl ?_
  refine r_lastN dX0_rowsTo_19 (ly_32 hE) (ha.1) (by decide) ?_
  refine r_iconst (v := 0) dX0_rowsTo_20 rfl ?_
  refine r_istore (loc' := [(4, .int 0), (0, .ref 6), (1, .ref 5), (2, .int kv), (3, .int (nI m))]) dX0_rowsTo_21 (by decide) rfl ?_
  refine qG.pick [0, 1, 2, 3, 4] rfl ?_
  refine rs_loop hN hW hp hc hrs hx hm h m 0 _ (by omega) (fun a ha1 => ?_)
  show _ = lN (if a = aP S p then 1 else 0)
  by_cases e : a = aP S p
  · rw [if_pos e, e, sJ_same]; rfl
  · rw [if_neg e, sJ_nj (fun _ => e), va_up_eq, fa_fill_in ha1]; rfl
set_option maxRecDepth 100000 in
set_option maxHeartbeats 1000000 in
theorem mr_init (hE : hM E) (hW : WfS S T n z) (hR : RM A S T) (hp : p < n) {kv : Int32} {m t : Nat} : ∀ (k a : Nat) (L : mJ), a + k = 100 → (∀ b, b < a → L 51 b = lN (wP S p N 0 b)) → (∀ L', (∀ b, b < 100 → L' 51 b = lN (wP S p N 0 b)) → qG E mm_X7_rows (d + 1) 85 [(0, .ref 38), (1, .int (nI p)), (2, .int kv), (3, .int (nI m)), (4, .int (nI t))] [] A L' Ph) → qG E mm_X7_rows (d + 1) 50 [(5, .int (nI a)), (0, .ref 38), (1, .int (nI p)), (2, .int kv), (3, .int (nI m)), (4, .int (nI t))] [] A L Ph := by
  have ha := aP_ok hW hp
  intro k
  induction k with
  | zero =>
    intro a L hk h1 h
    have hk : a = 100 := by omega
    subst hk
    refine r_iload dX7_rows_50 rfl ?_
    refine r_bipush (v := 100) dX7_rows_52 rfl ?_
    refine r_icmp_ge (tgt := 85) dX7_rows_54 (by decide) (fun _ => ?_) (fun hqz => absurd (nI_le (Nat.le_refl 100) (by decide)) hqz)
    refine qG.pick [1, 2, 3, 4, 5] rfl ?_
    exact h L h1
  | succ k ih =>
    intro a L hk h1 h
    have ha1 : a < 100 := by omega
    have key : ∀ v : Int64, v = lN (if a = aP S p then 1 else 0) → ∀ b, b < a + 1 → sJ L 51 a v 51 b = lN (wP S p N 0 b) := by
      intro v hv b hb
      by_cases e : b = a
      · rw [e, sJ_same, hv]; rfl
      · rw [sJ_nj (fun _ => e)]; exact h1 b (by omega)
    refine r_iload dX7_rows_50 rfl ?_
    refine r_bipush (v := 100) dX7_rows_52 rfl ?_
    refine r_icmp_ge (tgt := 85) dX7_rows_54 (by decide) (fun hqz => absurd hqz (nI_ge ha1 (by decide))) (fun _ => ?_)
    refine r_aload_n dX7_rows_57 rfl ?_
    refine r_getR dX7_rows_58 fl_X7_56 (ly_38 hE) rfl ?_
    refine r_iload dX7_rows_61 rfl ?_
    refine r_iload dX7_rows_63 rfl ?_
    refine r_aload_n dX7_rows_65 rfl ?_
    refine r_iload_n dX7_rows_66 rfl ?_
    refine r_callV1 dX7_rows_67 lk_X7_101 (ly_38 hE) rfl (Nat.le_of_ble_eq_true rfl) (mo_an hE hW hR hp ?_)
    refine r_rw (y := nI (aP S p)) ha.2 ?_
    refine r_icmp_ne (tgt := 77) dX7_rows_70 (by decide) (fun b70 => ?_) (fun b70 => ?_)
    · refine r_lconst (v := 0) dX7_rows_77 rfl ?_
      refine r_lastN dX7_rows_78 (ly_51 hE) (by omega) (by decide) ?_
      refine r_iinc (v := (nI (a + 1))) (loc' := [(5, .int (nI (a + 1))), (0, .ref 38), (1, .int (nI p)), (2, .int kv), (3, .int (nI m)), (4, .int (nI t))]) dX7_rows_79 rfl ((nI_succ _).symm) (by decide) rfl ?_
      refine r_goto (tgt := 50) dX7_rows_82 (by decide) ?_
      refine qG.pick [0, 1, 2, 3, 4, 5] rfl ?_
      exact ih (a + 1) _ (by omega) (key _ (by first | (rw [if_pos ((nI_eq (by omega) (by omega)).mp b70)]; rfl) | (rw [if_neg (fun z => b70 (by rw [z]))]; rfl))) h
    · refine r_lconst (v := 1) dX7_rows_73 rfl ?_
      refine r_goto (tgt := 78) dX7_rows_74 (by decide) ?_
      refine r_lastN dX7_rows_78 (ly_51 hE) (by omega) (by decide) ?_
      refine r_iinc (v := (nI (a + 1))) (loc' := [(5, .int (nI (a + 1))), (0, .ref 38), (1, .int (nI p)), (2, .int kv), (3, .int (nI m)), (4, .int (nI t))]) dX7_rows_79 rfl ((nI_succ _).symm) (by decide) rfl ?_
      refine r_goto (tgt := 50) dX7_rows_82 (by decide) ?_
      refine qG.pick [0, 1, 2, 3, 4, 5] rfl ?_
      exact ih (a + 1) _ (by omega) (key _ (by first | (rw [if_pos ((nI_eq (by omega) (by omega)).mp b70)]; rfl) | (rw [if_neg (fun z => b70 (by rw [z]))]; rfl))) h
set_option maxRecDepth 100000 in
set_option maxHeartbeats 1000000 in
theorem mr_zero (hE : hM E) {kv : Int32} {m t s al : Nat} : ∀ (k a : Nat) (L : mJ), a + k = 100 → (∀ b, b < 100 → L 51 b = lN (W b)) → (∀ b, b < a → L 52 b = lN 0) → (∀ L', (∀ b, b < 100 → L' 51 b = lN (W b)) → (∀ b, b < 100 → L' 52 b = lN 0) → qG E mm_X7_rows d 129 [(7, .int (nI s)), (5, .long (lN al)), (0, .ref 38), (1, .int (nI p)), (2, .int kv), (3, .int (nI m)), (4, .int (nI t))] [] A L' Ph) → qG E mm_X7_rows d 108 [(8, .int (nI a)), (7, .int (nI s)), (5, .long (lN al)), (0, .ref 38), (1, .int (nI p)), (2, .int kv), (3, .int (nI m)), (4, .int (nI t))] [] A L Ph := by
  intro k
  induction k with
  | zero =>
    intro a L hk h1 h2 h
    have hk : a = 100 := by omega
    subst hk
    refine r_iload dX7_rows_108 rfl ?_
    refine r_bipush (v := 100) dX7_rows_110 rfl ?_
    refine r_icmp_ge (tgt := 129) dX7_rows_112 (by decide) (fun _ => ?_) (fun hqz => absurd (nI_le (Nat.le_refl 100) (by decide)) hqz)
    refine qG.pick [1, 2, 3, 4, 5, 6, 7] rfl ?_
    exact h L h1 h2
  | succ k ih =>
    intro a L hk h1 h2 h
    have ha1 : a < 100 := by omega
    refine r_iload dX7_rows_108 rfl ?_
    refine r_bipush (v := 100) dX7_rows_110 rfl ?_
    refine r_icmp_ge (tgt := 129) dX7_rows_112 (by decide) (fun hqz => absurd hqz (nI_ge ha1 (by decide))) (fun _ => ?_)
    refine r_aload_n dX7_rows_115 rfl ?_
    refine r_getR dX7_rows_116 fl_X7_60 (ly_38 hE) rfl ?_
    refine r_iload dX7_rows_119 rfl ?_
    refine r_lconst (v := 0) dX7_rows_121 rfl ?_
    refine r_lastN dX7_rows_122 (ly_52 hE) (by omega) (by decide) ?_
    refine r_iinc (v := (nI (a + 1))) (loc' := [(8, .int (nI (a + 1))), (7, .int (nI s)), (5, .long (lN al)), (0, .ref 38), (1, .int (nI p)), (2, .int kv), (3, .int (nI m)), (4, .int (nI t))]) dX7_rows_123 rfl ((nI_succ _).symm) (by decide) rfl ?_
    refine r_goto (tgt := 108) dX7_rows_126 (by decide) ?_
    refine qG.pick [0, 1, 2, 3, 4, 5, 6, 7] rfl ?_
    refine ih (a + 1) _ (by omega) (fun b hb => by rw [sJ_ne (by decide)]; exact h1 b hb) (fun b hb => ?_) h
    by_cases e : b = a
    · rw [e, sJ_same]; rfl
    · rw [sJ_nj (fun _ => e)]; exact h2 b (by omega)
set_option maxRecDepth 100000 in
set_option maxHeartbeats 1000000 in
theorem mr_in (hE : hM E) (hfl : FLL A S p) {kv : Int32} {m t s al : Nat} {a : Nat} (ha : a < 100) : ∀ (k w : Nat) (L : mJ), w + k = 6 → (∀ b, b < 100 → L 51 b = lN (W b)) → (∀ b, b < 100 → L 52 b = lN (ac (gP S p) (fun a => a) W a w b)) → (∀ L', (∀ b, b < 100 → L' 51 b = lN (W b)) → (∀ b, b < 100 → L' 52 b = lN (ac (gP S p) (fun a => a) W (a + 1) 0 b)) → qG E mm_X7_rows d 183 [(8, .int (nI a)), (7, .int (nI s)), (5, .long (lN al)), (0, .ref 38), (1, .int (nI p)), (2, .int kv), (3, .int (nI m)), (4, .int (nI t))] [] A L' Ph) → qG E mm_X7_rows d 142 [(9, .int (nI w)), (8, .int (nI a)), (7, .int (nI s)), (5, .long (lN al)), (0, .ref 38), (1, .int (nI p)), (2, .int kv), (3, .int (nI m)), (4, .int (nI t))] [] A L Ph := by
  intro k
  induction k with
  | zero =>
    intro w L hw h1 h2 h
    have hw : w = 6 := by omega
    subst hw
    refine r_iload dX7_rows_142 rfl ?_
    refine r_bipush (v := 6) dX7_rows_144 rfl ?_
    refine r_icmp_ge (tgt := 183) dX7_rows_146 (by decide) (fun _ => ?_) (fun hqz => absurd (nI_le (Nat.le_refl 6) (by decide)) hqz)
    refine qG.pick [1, 2, 3, 4, 5, 6, 7, 8] rfl ?_
    exact h L h1 (fun b hb => by rw [ac_next]; exact h2 b hb)
  | succ k ih =>
    intro w L hw h1 h2 h
    have hw6 : w < 6 := by omega
    obtain ⟨y, hy⟩ : ∃ y, gP S p a w = y := ⟨_, rfl⟩
    have hy1 : y < 100 := by rw [← hy]; exact (gP_ok S p _ w).1
    refine r_iload dX7_rows_142 rfl ?_
    refine r_bipush (v := 6) dX7_rows_144 rfl ?_
    refine r_icmp_ge (tgt := 183) dX7_rows_146 (by decide) (fun hqz => absurd hqz (nI_ge hw6 (by decide))) (fun _ => ?_)
    refine r_aload_n dX7_rows_149 rfl ?_
    refine r_getR dX7_rows_150 fl_X7_60 (ly_38 hE) rfl ?_
    refine r_aload_n dX7_rows_153 rfl ?_
    refine r_getR dX7_rows_154 fl_X7_43 (ly_38 hE) rfl ?_
    refine r_bipush (v := 6) dX7_rows_157 rfl ?_
    refine r_iload dX7_rows_159 rfl ?_
    refine r_imul dX7_rows_161 ?_
    refine r_iload dX7_rows_162 rfl ?_
    refine r_iadd dX7_rows_164 ?_
    refine r_rw (y := nI (6 * a + w)) (show nI 6 * nI a + nI w = _ by rw [pk_mul, nI_add]) ?_
    refine r_ialdN dX7_rows_165 (ly_47 hE) (by omega) (by decide) ?_
    refine r_rw (y := nI y) ((hfl.2 a w ha hw6).trans (by rw [hy])) ?_
    refine r_dup2 dX7_rows_166 rfl rfl ?_
    refine r_laldN dX7_rows_167 (ly_52 hE) (by omega) (by decide) ?_
    refine r_aload_n dX7_rows_168 rfl ?_
    refine r_getR dX7_rows_169 fl_X7_56 (ly_38 hE) rfl ?_
    refine r_iload dX7_rows_172 rfl ?_
    refine r_laldN dX7_rows_174 (ly_51 hE) (by omega) (by decide) ?_
    refine r_ladd dX7_rows_175 ?_
    refine r_rwl (y := lN (ac (gP S p) (fun a => a) W a w y + W a)) (by rw [h2 y hy1, h1 _ ha, lN_add]) ?_
    refine r_lastN dX7_rows_176 (ly_52 hE) (by omega) (by decide) ?_
    refine r_iinc (v := (nI (w + 1))) (loc' := [(9, .int (nI (w + 1))), (8, .int (nI a)), (7, .int (nI s)), (5, .long (lN al)), (0, .ref 38), (1, .int (nI p)), (2, .int kv), (3, .int (nI m)), (4, .int (nI t))]) dX7_rows_177 rfl ((nI_succ _).symm) (by decide) rfl ?_
    refine r_goto (tgt := 142) dX7_rows_180 (by decide) ?_
    refine qG.pick [0, 1, 2, 3, 4, 5, 6, 7, 8] rfl ?_
    exact ih (w + 1) _ (by omega) (fun a ha => by rw [sJ_ne (by decide)]; exact h1 a ha) (ac_put (x := (fun a => a)) h2 hy) h
set_option maxRecDepth 100000 in
set_option maxHeartbeats 1000000 in
theorem mr_out (hE : hM E) (hfl : FLL A S p) {kv : Int32} {m t s al : Nat} : ∀ (k a : Nat) (L : mJ), a + k = 100 → (∀ b, b < 100 → L 51 b = lN (W b)) → (∀ b, b < 100 → L 52 b = lN (ac (gP S p) (fun a => a) W a 0 b)) → (∀ L', (∀ b, b < 100 → L' 52 b = lN (ac (gP S p) (fun a => a) W 100 0 b)) → qG E mm_X7_rows d 189 [(7, .int (nI s)), (5, .long (lN al)), (0, .ref 38), (1, .int (nI p)), (2, .int kv), (3, .int (nI m)), (4, .int (nI t))] [] A L' Ph) → qG E mm_X7_rows d 132 [(8, .int (nI a)), (7, .int (nI s)), (5, .long (lN al)), (0, .ref 38), (1, .int (nI p)), (2, .int kv), (3, .int (nI m)), (4, .int (nI t))] [] A L Ph := by
  intro k
  induction k with
  | zero =>
    intro a L hk h1 h2 h
    have hk : a = 100 := by omega
    subst hk
    refine r_iload dX7_rows_132 rfl ?_
    refine r_bipush (v := 100) dX7_rows_134 rfl ?_
    refine r_icmp_ge (tgt := 189) dX7_rows_136 (by decide) (fun _ => ?_) (fun hqz => absurd (nI_le (Nat.le_refl 100) (by decide)) hqz)
    refine qG.pick [1, 2, 3, 4, 5, 6, 7] rfl ?_
    exact h L h2
  | succ k ih =>
    intro a L hk h1 h2 h
    have ha1 : a < 100 := by omega
    refine r_iload dX7_rows_132 rfl ?_
    refine r_bipush (v := 100) dX7_rows_134 rfl ?_
    refine r_icmp_ge (tgt := 189) dX7_rows_136 (by decide) (fun hqz => absurd hqz (nI_ge ha1 (by decide))) (fun _ => ?_)
    refine r_iconst (v := 0) dX7_rows_139 rfl ?_
    refine r_istore (loc' := [(9, .int 0), (8, .int (nI a)), (7, .int (nI s)), (5, .long (lN al)), (0, .ref 38), (1, .int (nI p)), (2, .int kv), (3, .int (nI m)), (4, .int (nI t))]) dX7_rows_140 (by decide) rfl ?_
    refine qG.pick [0, 1, 2, 3, 4, 5, 6, 7, 8] rfl ?_
    refine mr_in hE hfl ha1 6 0 L (by omega) h1 h2 (fun L1 k1 k2 => ?_)
    refine r_iinc (v := (nI (a + 1))) (loc' := [(8, .int (nI (a + 1))), (7, .int (nI s)), (5, .long (lN al)), (0, .ref 38), (1, .int (nI p)), (2, .int kv), (3, .int (nI m)), (4, .int (nI t))]) dX7_rows_183 rfl ((nI_succ _).symm) (by decide) rfl ?_
    refine r_goto (tgt := 132) dX7_rows_186 (by decide) ?_
    refine qG.pick [0, 1, 2, 3, 4, 5, 6, 7] rfl ?_
    exact ih (a + 1) L1 (by omega) k1 k2 h
set_option maxRecDepth 100000 in
set_option maxHeartbeats 1000000 in
theorem mr_copy (hE : hM E) {V : Nat → Nat} {kv : Int32} {m t s al : Nat} : ∀ (k a : Nat) (L : mJ), a + k = 100 → (∀ b, b < 100 → L 52 b = lN (V b)) → (∀ b, b < a → L 51 b = lN (V b)) → (∀ L', (∀ b, b < 100 → L' 51 b = lN (V b)) → qG E mm_X7_rows d 219 [(7, .int (nI s)), (5, .long (lN al)), (0, .ref 38), (1, .int (nI p)), (2, .int kv), (3, .int (nI m)), (4, .int (nI t))] [] A L' Ph) → qG E mm_X7_rows d 192 [(8, .int (nI a)), (7, .int (nI s)), (5, .long (lN al)), (0, .ref 38), (1, .int (nI p)), (2, .int kv), (3, .int (nI m)), (4, .int (nI t))] [] A L Ph := by
  intro k
  induction k with
  | zero =>
    intro a L hk h1 h2 h
    have hk : a = 100 := by omega
    subst hk
    refine r_iload dX7_rows_192 rfl ?_
    refine r_bipush (v := 100) dX7_rows_194 rfl ?_
    refine r_icmp_ge (tgt := 219) dX7_rows_196 (by decide) (fun _ => ?_) (fun hqz => absurd (nI_le (Nat.le_refl 100) (by decide)) hqz)
    refine qG.pick [1, 2, 3, 4, 5, 6, 7] rfl ?_
    exact h L h2
  | succ k ih =>
    intro a L hk h1 h2 h
    have ha1 : a < 100 := by omega
    refine r_iload dX7_rows_192 rfl ?_
    refine r_bipush (v := 100) dX7_rows_194 rfl ?_
    refine r_icmp_ge (tgt := 219) dX7_rows_196 (by decide) (fun hqz => absurd hqz (nI_ge ha1 (by decide))) (fun _ => ?_)
    refine r_aload_n dX7_rows_199 rfl ?_
    refine r_getR dX7_rows_200 fl_X7_56 (ly_38 hE) rfl ?_
    refine r_iload dX7_rows_203 rfl ?_
    refine r_aload_n dX7_rows_205 rfl ?_
    refine r_getR dX7_rows_206 fl_X7_60 (ly_38 hE) rfl ?_
    refine r_iload dX7_rows_209 rfl ?_
    refine r_laldN dX7_rows_211 (ly_52 hE) (by omega) (by decide) ?_
    refine r_lastN dX7_rows_212 (ly_51 hE) (by omega) (by decide) ?_
    refine r_iinc (v := (nI (a + 1))) (loc' := [(8, .int (nI (a + 1))), (7, .int (nI s)), (5, .long (lN al)), (0, .ref 38), (1, .int (nI p)), (2, .int kv), (3, .int (nI m)), (4, .int (nI t))]) dX7_rows_213 rfl ((nI_succ _).symm) (by decide) rfl ?_
    refine r_goto (tgt := 192) dX7_rows_216 (by decide) ?_
    refine qG.pick [0, 1, 2, 3, 4, 5, 6, 7] rfl ?_
    refine ih (a + 1) _ (by omega) (fun b hb => by rw [sJ_ne (by decide)]; exact h1 b hb) (fun b hb => ?_) h
    by_cases e : b = a
    · rw [e, sJ_same]; exact h1 a ha1
    · rw [sJ_nj (fun _ => e)]; exact h2 b (by omega)
set_option maxRecDepth 100000 in
set_option maxHeartbeats 1000000 in
theorem mr_step (hN : N = 100) (hE : hM E) (hfl : FLL A S p) {kv : Int32} {m t : Nat} (hm : m ≤ 20) : ∀ (k s : Nat) (L : mJ), s + k = m → (∀ b, b < 100 → L 51 b = lN (wP S p N s b)) → (∀ L', (∀ b, b < 100 → L' 51 b = lN (wP S p N m b)) → qG E mm_X7_rows d 225 [(5, .long (lN (6 ^ m))), (0, .ref 38), (1, .int (nI p)), (2, .int kv), (3, .int (nI m)), (4, .int (nI t))] [] A L' Ph) → qG E mm_X7_rows d 91 [(7, .int (nI s)), (5, .long (lN (6 ^ s))), (0, .ref 38), (1, .int (nI p)), (2, .int kv), (3, .int (nI m)), (4, .int (nI t))] [] A L Ph := by
  intro k
  induction k with
  | zero =>
    intro s L hk h1 h
    have hk : s = m := by omega
    rw [hk] at h1 ⊢
    refine r_iload dX7_rows_91 rfl ?_
    refine r_iload_n dX7_rows_93 rfl ?_
    refine r_icmp_ge (tgt := 225) dX7_rows_94 (by decide) (fun _ => ?_) (fun hqz => absurd (nI_le (Nat.le_refl _) (by omega)) hqz)
    refine qG.pick [1, 2, 3, 4, 5, 6] rfl ?_
    exact h L h1
  | succ k ih =>
    intro s L hk h1 h
    refine r_iload dX7_rows_91 rfl ?_
    refine r_iload_n dX7_rows_93 rfl ?_
    refine r_icmp_ge (tgt := 225) dX7_rows_94 (by decide) (fun hqz => absurd hqz (nI_ge (show s < m by omega) (by omega))) (fun _ => ?_)
    refine r_lload dX7_rows_97 rfl ?_
    refine r_ldc2 dX7_rows_99 kc_X7_248 ?_
    refine r_lmul dX7_rows_102 ?_
    refine r_rwl (y := lN (6 ^ (s + 1))) (show lN (6 ^ s) * lN 6 = _ by rw [lN_mul, Nat.pow_succ]) ?_
    refine r_lstore (loc' := [(5, .long (lN (6 ^ (s + 1)))), (7, .int (nI s)), (0, .ref 38), (1, .int (nI p)), (2, .int kv), (3, .int (nI m)), (4, .int (nI t))]) dX7_rows_103 (by decide) rfl ?_
    refine r_iconst (v := 0) dX7_rows_105 rfl ?_
    refine r_istore (loc' := [(8, .int 0), (5, .long (lN (6 ^ (s + 1)))), (7, .int (nI s)), (0, .ref 38), (1, .int (nI p)), (2, .int kv), (3, .int (nI m)), (4, .int (nI t))]) dX7_rows_106 (by decide) rfl ?_
    refine qG.pick [0, 2, 1, 3, 4, 5, 6, 7] rfl ?_
    refine mr_zero hE 100 0 L (by omega) h1 (fun b hb => absurd hb (Nat.not_lt_zero _)) (fun L2 k1 k2 => ?_)
    refine r_iconst (v := 0) dX7_rows_129 rfl ?_
    refine r_istore (loc' := [(8, .int 0), (7, .int (nI s)), (5, .long (lN (6 ^ (s + 1)))), (0, .ref 38), (1, .int (nI p)), (2, .int kv), (3, .int (nI m)), (4, .int (nI t))]) dX7_rows_130 (by decide) rfl ?_
    refine qG.pick [0, 1, 2, 3, 4, 5, 6, 7] rfl ?_
    refine mr_out hE hfl 100 0 L2 (by omega) k1 (fun b hb => by rw [ac_0]; exact k2 b hb) (fun L3 k3 => ?_)
    refine r_iconst (v := 0) dX7_rows_189 rfl ?_
    refine r_istore (loc' := [(8, .int 0), (7, .int (nI s)), (5, .long (lN (6 ^ (s + 1)))), (0, .ref 38), (1, .int (nI p)), (2, .int kv), (3, .int (nI m)), (4, .int (nI t))]) dX7_rows_190 (by decide) rfl ?_
    refine qG.pick [0, 1, 2, 3, 4, 5, 6, 7] rfl ?_
    refine mr_copy hE 100 0 L3 (by omega) k3 (fun b hb => absurd hb (Nat.not_lt_zero _)) (fun L4 k4 => ?_)
    refine r_iinc (v := (nI (s + 1))) (loc' := [(7, .int (nI (s + 1))), (5, .long (lN (6 ^ (s + 1)))), (0, .ref 38), (1, .int (nI p)), (2, .int kv), (3, .int (nI m)), (4, .int (nI t))]) dX7_rows_219 rfl ((nI_succ _).symm) (by decide) rfl ?_
    refine r_goto (tgt := 91) dX7_rows_222 (by decide) ?_
    refine qG.pick [0, 1, 2, 3, 4, 5, 6] rfl ?_
    refine ih (s + 1) L4 (by omega) (fun b hb => ?_) h
    rw [k4 b hb, ac_end, ← hN]
    rfl
set_option maxRecDepth 100000 in
set_option maxHeartbeats 1000000 in
theorem mr_sum (hN : N = 100) (hE : hM E) (hfl : FLL A S p) {kv : Int32} {m t : Nat} (hm : m ≤ 20) (ht : t < 2) (ha0 : aP S p < 100) (h1 : ∀ b, b < 100 → L 51 b = lN (wP S p N m b)) (h : Ph (some (.long (lN ((if t = 0 then sm (gq S p N m kv) N else 6 ^ m) / Nat.gcd (sm (gq S p N m kv) N) (6 ^ m))))) A L) : ∀ (k a : Nat), a + k = N → qG E mm_X7_rows (d + 1) 231 [(9, .int (nI a)), (7, .long (lN (sm (gq S p N m kv) a))), (5, .long (lN (6 ^ m))), (0, .ref 38), (1, .int (nI p)), (2, .int kv), (3, .int (nI m)), (4, .int (nI t))] [] A L Ph := by
  intro k
  induction k with
  | zero =>
    intro a hk
    have hk : a = N := by omega
    rw [hk]
    have hle := gq_le (S := S) (p := p) (n := m) (kv := kv) hN ha0
    have h6 : 6 ^ m < 2 ^ 63 := Nat.lt_of_le_of_lt (Nat.pow_le_pow_right (by decide) hm) (by decide)
    have h60 : 0 < 6 ^ m := Nat.pow_pos (by decide)
    generalize sm (gq S p N m kv) N = so at *
    generalize 6 ^ m = al at *
    have g1 : 1 ≤ Nat.gcd al so := Nat.gcd_pos_of_pos_left _ h60
    have g2 : Nat.gcd al so < 2 ^ 63 := Nat.lt_of_le_of_lt (Nat.le_of_dvd h60 (Nat.gcd_dvd_left al _)) h6
    rw [Nat.gcd_comm] at h
    rcases (show t = 0 ∨ t = 1 by omega) with rfl | rfl
    · refine r_iload dX7_rows_231 rfl ?_
      refine r_bipush (v := 100) dX7_rows_233 rfl ?_
      refine r_icmp_ge (tgt := 271) dX7_rows_235 (by decide) (fun _ => ?_) (fun hqz => absurd (nI_le (b := N) (a := 100) (by omega) (by omega)) hqz)
      refine r_lload dX7_rows_271 rfl ?_
      refine r_lload dX7_rows_273 rfl ?_
      refine r_callS2 dX7_rows_275 lk_X7_250 (Nat.le_of_ble_eq_true rfl) (sp_X7_gcd h6 (by omega) ?_)
      refine r_lstore (loc' := [(9, .long (lN (Nat.gcd al so))), (7, .long (lN so)), (5, .long (lN al)), (0, .ref 38), (1, .int (nI p)), (2, .int kv), (3, .int (nI m)), (4, .int (nI 0))]) dX7_rows_278 (by decide) rfl ?_
      refine r_iload dX7_rows_280 rfl ?_
      refine r_if_ne (tgt := 293) dX7_rows_282 (by decide) (fun hqz => absurd (by decide) hqz) (fun _ => ?_)
      refine r_lload dX7_rows_285 rfl ?_
      refine r_lload dX7_rows_287 rfl ?_
      refine r_ldiv dX7_rows_289 (fun q => by have := (pk_lEQ g2 (by decide : 0 < 2 ^ 63)).mp q; omega) ?_
      refine r_rwl (y := lN (so / Nat.gcd al so)) (pk_lDiv (by omega) (by omega) g2) ?_
      refine r_goto (tgt := 298) dX7_rows_290 (by decide) ?_
      refine r_lreturn dX7_rows_298 rfl ?_
      exact h
    · refine r_iload dX7_rows_231 rfl ?_
      refine r_bipush (v := 100) dX7_rows_233 rfl ?_
      refine r_icmp_ge (tgt := 271) dX7_rows_235 (by decide) (fun _ => ?_) (fun hqz => absurd (nI_le (b := N) (a := 100) (by omega) (by omega)) hqz)
      refine r_lload dX7_rows_271 rfl ?_
      refine r_lload dX7_rows_273 rfl ?_
      refine r_callS2 dX7_rows_275 lk_X7_250 (Nat.le_of_ble_eq_true rfl) (sp_X7_gcd h6 (by omega) ?_)
      refine r_lstore (loc' := [(9, .long (lN (Nat.gcd al so))), (7, .long (lN so)), (5, .long (lN al)), (0, .ref 38), (1, .int (nI p)), (2, .int kv), (3, .int (nI m)), (4, .int (nI 1))]) dX7_rows_278 (by decide) rfl ?_
      refine r_iload dX7_rows_280 rfl ?_
      refine r_if_ne (tgt := 293) dX7_rows_282 (by decide) (fun _ => ?_) (fun hqz => absurd hqz (by decide))
      refine r_lload dX7_rows_293 rfl ?_
      refine r_lload dX7_rows_295 rfl ?_
      refine r_ldiv dX7_rows_297 (fun q => by have := (pk_lEQ g2 (by decide : 0 < 2 ^ 63)).mp q; omega) ?_
      refine r_rwl (y := lN (al / Nat.gcd al so)) (pk_lDiv (by omega) (by omega) g2) ?_
      refine r_lreturn dX7_rows_298 rfl ?_
      exact h
  | succ k ih =>
    intro a hk
    have ha1 : a < 100 := by omega
    have hst := ih (a + 1) (by omega)
    rw [show sm (gq S p N m kv) (a + 1) = sm (gq S p N m kv) a + gq S p N m kv a from rfl] at hst
    clear h
    generalize sm (gq S p N m kv) a = c at *
    refine r_iload dX7_rows_231 rfl ?_
    refine r_bipush (v := 100) dX7_rows_233 rfl ?_
    refine r_icmp_ge (tgt := 271) dX7_rows_235 (by decide) (fun hqz => absurd hqz (nI_ge ha1 (by decide))) (fun _ => ?_)
    refine r_lload dX7_rows_238 rfl ?_
    refine r_aload_n dX7_rows_240 rfl ?_
    refine r_getR dX7_rows_241 fl_X7_46 (ly_38 hE) rfl ?_
    refine r_iload dX7_rows_244 rfl ?_
    refine r_ialdN dX7_rows_246 (ly_48 hE) (by omega) (by decide) ?_
    refine r_rw (y := farP S p (nI a)) (hfl.1 a ha1) ?_
    refine r_iload_n dX7_rows_247 rfl ?_
    refine r_icmp_lt (tgt := 261) dX7_rows_248 (by decide) (fun b248 => ?_) (fun b248 => ?_)
    · refine r_lconst (v := 0) dX7_rows_261 rfl ?_
      refine r_ladd dX7_rows_262 ?_
      first | refine r_rwl (y := lN (c + gq S p N m kv a)) (show lN c + lN 0 = _ by rw [gq0 b248, lN_add]) ?_ | refine r_rwl (y := lN (c + gq S p N m kv a)) (by rw [gq1 b248, lN_add]) ?_
      refine r_lstore (loc' := [(7, .long (lN (c + gq S p N m kv a))), (9, .int (nI a)), (5, .long (lN (6 ^ m))), (0, .ref 38), (1, .int (nI p)), (2, .int kv), (3, .int (nI m)), (4, .int (nI t))]) dX7_rows_263 (by decide) rfl ?_
      refine r_iinc (v := (nI (a + 1))) (loc' := [(9, .int (nI (a + 1))), (7, .long (lN (c + gq S p N m kv a))), (5, .long (lN (6 ^ m))), (0, .ref 38), (1, .int (nI p)), (2, .int kv), (3, .int (nI m)), (4, .int (nI t))]) dX7_rows_265 rfl ((nI_succ _).symm) (by decide) rfl ?_
      refine r_goto (tgt := 231) dX7_rows_268 (by decide) ?_
      refine qG.pick [0, 1, 2, 3, 4, 5, 6, 7] rfl ?_
      exact hst
    · refine r_aload_n dX7_rows_251 rfl ?_
      refine r_getR dX7_rows_252 fl_X7_56 (ly_38 hE) rfl ?_
      refine r_iload dX7_rows_255 rfl ?_
      refine r_laldN dX7_rows_257 (ly_51 hE) (by omega) (by decide) ?_
      refine r_rwl (y := lN (wP S p N m a)) (h1 a ha1) ?_
      refine r_goto (tgt := 262) dX7_rows_258 (by decide) ?_
      refine r_ladd dX7_rows_262 ?_
      first | refine r_rwl (y := lN (c + gq S p N m kv a)) (show lN c + lN 0 = _ by rw [gq0 b248, lN_add]) ?_ | refine r_rwl (y := lN (c + gq S p N m kv a)) (by rw [gq1 b248, lN_add]) ?_
      refine r_lstore (loc' := [(7, .long (lN (c + gq S p N m kv a))), (9, .int (nI a)), (5, .long (lN (6 ^ m))), (0, .ref 38), (1, .int (nI p)), (2, .int kv), (3, .int (nI m)), (4, .int (nI t))]) dX7_rows_263 (by decide) rfl ?_
      refine r_iinc (v := (nI (a + 1))) (loc' := [(9, .int (nI (a + 1))), (7, .long (lN (c + gq S p N m kv a))), (5, .long (lN (6 ^ m))), (0, .ref 38), (1, .int (nI p)), (2, .int kv), (3, .int (nI m)), (4, .int (nI t))]) dX7_rows_265 rfl ((nI_succ _).symm) (by decide) rfl ?_
      refine r_goto (tgt := 231) dX7_rows_268 (by decide) ?_
      refine qG.pick [0, 1, 2, 3, 4, 5, 6, 7] rfl ?_
      exact hst
set_option maxRecDepth 100000 in
set_option maxHeartbeats 1000000 in
theorem cr_all (hE : hC E) {kv : Int32} {m t : Nat} (hm : m ≤ 20) (h : qG E mm_X6_rows d 84 [(5, .long (lN (6 ^ m))), (0, .ref 0), (1, .int (nI p)), (2, .int kv), (3, .int (nI m)), (4, .int (nI t))] [] A L Ph) : ∀ (k i : Nat), i + k = m → qG E mm_X6_rows d 64 [(7, .int (nI i)), (5, .long (lN (6 ^ i))), (0, .ref 0), (1, .int (nI p)), (2, .int kv), (3, .int (nI m)), (4, .int (nI t))] [] A L Ph := by
  intro k
  induction k with
  | zero =>
    intro i hk
    have hk : i = m := by omega
    rw [hk]
    refine r_iload dX6_rows_64 rfl ?_
    refine r_iload_n dX6_rows_66 rfl ?_
    refine r_icmp_ge (tgt := 84) dX6_rows_67 (by decide) (fun _ => ?_) (fun hqz => absurd (nI_le (Nat.le_refl _) (by omega)) hqz)
    refine qG.pick [1, 2, 3, 4, 5, 6] rfl ?_
    exact h
  | succ k ih =>
    intro i hk
    refine r_iload dX6_rows_64 rfl ?_
    refine r_iload_n dX6_rows_66 rfl ?_
    refine r_icmp_ge (tgt := 84) dX6_rows_67 (by decide) (fun hqz => absurd hqz (nI_ge (show i < m by omega) (by omega))) (fun _ => ?_)
    refine r_lload dX6_rows_70 rfl ?_
    refine r_ldc2 dX6_rows_72 kc_X6_236 ?_
    refine r_lmul dX6_rows_75 ?_
    refine r_rwl (y := lN (6 ^ (i + 1))) (show lN (6 ^ i) * lN 6 = _ by rw [lN_mul, Nat.pow_succ]) ?_
    refine r_lstore (loc' := [(5, .long (lN (6 ^ (i + 1)))), (7, .int (nI i)), (0, .ref 0), (1, .int (nI p)), (2, .int kv), (3, .int (nI m)), (4, .int (nI t))]) dX6_rows_76 (by decide) rfl ?_
    refine r_iinc (v := (nI (i + 1))) (loc' := [(7, .int (nI (i + 1))), (5, .long (lN (6 ^ (i + 1)))), (0, .ref 0), (1, .int (nI p)), (2, .int kv), (3, .int (nI m)), (4, .int (nI t))]) dX6_rows_78 rfl ((nI_succ _).symm) (by decide) rfl ?_
    refine r_goto (tgt := 64) dX6_rows_81 (by decide) ?_
    refine qG.pick [0, 1, 2, 3, 4, 5, 6] rfl ?_
    exact ih (i + 1) (by omega)
set_option maxRecDepth 100000 in
set_option maxHeartbeats 1000000 in
theorem op_rows (hE : hM E) (hW : WfS S T n z) (pv kv mv tv : Int32) : OpOK E (d + 6) mm_X6_rows mm_X7_rows [.int pv, .int kv, .int mv, .int tv] S T n z := by
  have hEc := hE.c
  have hN0 := hW.2.2.2.2.1
  have hn := hN0.1
  have h60 := hN0.2.1
  by_cases hb : (∃ p, p < n ∧ pv = nI p) ∧ (∃ k, k < 41 ∧ kv = nI k) ∧ (∃ m, m < 21 ∧ mv = nI m) ∧ ∃ t, t < 2 ∧ tv = nI t
  · obtain ⟨⟨p, hp, rfl⟩, ⟨k, hk41, rfl⟩, ⟨m, hm, rfl⟩, ⟨t, ht, rfl⟩⟩ := hb
    have ha := aP_ok hW hp
    obtain ⟨N, hN⟩ : ∃ N : Nat, N = 100 := ⟨_, rfl⟩
    have hle := gq_le (S := S) (p := p) (n := m) (kv := nI k) hN ha.1
    have h6 : 6 ^ m < 2 ^ 63 := Nat.lt_of_le_of_lt (Nat.pow_le_pow_right (by decide) (show m ≤ 20 by omega)) (by decide)
    have h6p : 0 < 6 ^ m := Nat.pow_pos (by decide)
    refine ⟨.long (lN ((if t = 0 then sm (gq S p N m (nI k)) N else 6 ^ m) / Nat.gcd (sm (gq S p N m (nI k)) N) (6 ^ m))), S, T, n, z, ⟨_, rfl⟩, hW, fun A L Ph hR hk => ?_, fun A L Ph hR hk => ?_⟩
    · skip
      refine qC.enter (by decide) (Nat.le_of_ble_eq_true rfl) ?_
      refine r_aload_n dX6_rows_0 rfl ?_
      refine r_getR dX6_rows_1 fl_X6_10 (ly_0 hEc) rfl ?_
      refine r_iload_n dX6_rows_4 rfl ?_
      refine r_callV1 dX6_rows_5 lk_X6_125 (ly_1 hEc) rfl (Nat.le_of_ble_eq_true rfl) (has_t hEc hn (hR.1.2.2.1.trans h60) hp ?_)
      refine r_if_eq (tgt := 38) dX6_rows_8 (by decide) (fun hqz => absurd hqz (by decide)) (fun _ => ?_)
      refine r_iload_n dX6_rows_11 rfl ?_
      refine r_bipush (v := 41) dX6_rows_12 rfl ?_
      refine r_callS2 dX6_rows_14 lk_X6_100 (Nat.le_of_ble_eq_true rfl) (win_t (lim := 41) rfl (by decide) hk41 ?_)
      refine r_if_eq (tgt := 38) dX6_rows_17 (by decide) (fun hqz => absurd hqz (by decide)) (fun _ => ?_)
      refine r_iload_n dX6_rows_20 rfl ?_
      refine r_bipush (v := 21) dX6_rows_21 rfl ?_
      refine r_callS2 dX6_rows_23 lk_X6_100 (Nat.le_of_ble_eq_true rfl) (win_t (lim := 21) rfl (by decide) hm ?_)
      refine r_if_eq (tgt := 38) dX6_rows_26 (by decide) (fun hqz => absurd hqz (by decide)) (fun _ => ?_)
      refine r_iload dX6_rows_29 rfl ?_
      refine r_iconst (v := 2) dX6_rows_31 rfl ?_
      refine r_callS2 dX6_rows_32 lk_X6_100 (Nat.le_of_ble_eq_true rfl) (win_t (lim := 2) rfl (by decide) ht ?_)
      refine r_if_ne (tgt := 42) dX6_rows_35 (by decide) (fun _ => ?_) (fun hqz => absurd hqz (by decide))
      refine r_aload_n dX6_rows_42 rfl ?_
      refine r_getR dX6_rows_43 fl_X6_45 (ly_0 hEc) rfl ?_
      refine r_aload_n dX6_rows_46 rfl ?_
      refine r_getR dX6_rows_47 fl_X6_38 (ly_0 hEc) rfl ?_
      refine r_aload_n dX6_rows_50 rfl ?_
      refine r_getR dX6_rows_51 fl_X6_10 (ly_0 hEc) rfl ?_
      refine r_iload_n dX6_rows_54 rfl ?_
      refine r_callV3 dX6_rows_55 lk_X6_201 (ly_6 hEc) rfl (Nat.le_of_ble_eq_true rfl) (sp_spread hEc hW hR hp (fun A1 sz ks f1 hc hrs => ?_))
      refine r_lconst (v := 1) dX6_rows_58 rfl ?_
      refine r_lstore (loc' := [(5, .long 1), (0, .ref 0), (1, .int (nI p)), (2, .int (nI k)), (3, .int (nI m)), (4, .int (nI t))]) dX6_rows_59 (by decide) rfl ?_
      refine r_iconst (v := 0) dX6_rows_61 rfl ?_
      refine r_istore (loc' := [(7, .int 0), (5, .long 1), (0, .ref 0), (1, .int (nI p)), (2, .int (nI k)), (3, .int (nI m)), (4, .int (nI t))]) dX6_rows_62 (by decide) rfl ?_
      refine qG.pick [0, 1, 2, 3, 4, 5, 6] rfl ?_
      refine cr_all hEc (show m ≤ 20 by omega) ?_ m 0 (by omega)
      refine r_aload_n dX6_rows_84 rfl ?_
      refine r_getR dX6_rows_85 fl_X6_45 (ly_0 hEc) rfl ?_
      refine r_aload_n dX6_rows_88 rfl ?_
      refine r_getR dX6_rows_89 fl_X6_38 (ly_0 hEc) rfl ?_
      refine r_iload_n dX6_rows_92 rfl ?_
      refine r_iload_n dX6_rows_93 rfl ?_
      refine r_callV3 dX6_rows_94 lk_X6_238 (ly_6 hEc) rfl (Nat.le_of_ble_eq_true rfl) (sp_rowsTo hN hW hp hc hrs (by omega) (fun A2 L2 f2 => ?_))
      refine r_lload dX6_rows_97 rfl ?_
      refine r_iload dX6_rows_99 rfl ?_
      refine r_callS3 dX6_rows_101 lk_X6_242 (Nat.le_of_ble_eq_true rfl) (sp_X6_lowest (by omega) h6 h6p ht ?_)
      refine r_lreturn dX6_rows_104 rfl ?_
      exact hk A2 L2 (hR.fr (f1R f1 f2)) (xR38 (f1R f1 f2))
    · skip
      refine qC.enter (by decide) (Nat.le_of_ble_eq_true rfl) ?_
      refine r_aload_n dX7_rows_0 rfl ?_
      refine r_iload_n dX7_rows_1 rfl ?_
      refine r_callV1 dX7_rows_2 lk_X7_82 (ly_38 hE) rfl (Nat.le_of_ble_eq_true rfl) (isP_t hE hn (by rw [hR.1]; exact h60) hp ?_)
      refine r_if_eq (tgt := 38) dX7_rows_5 (by decide) (fun hqz => absurd hqz (by decide)) (fun _ => ?_)
      refine r_iload_n dX7_rows_8 rfl ?_
      refine r_iconst (v := 0) dX7_rows_9 rfl ?_
      refine r_bipush (v := 40) dX7_rows_10 rfl ?_
      refine r_callS3 dX7_rows_12 lk_X7_78 (Nat.le_of_ble_eq_true rfl) (in_t (lim := 41) rfl rfl (by decide) hk41 ?_)
      refine r_if_eq (tgt := 38) dX7_rows_15 (by decide) (fun hqz => absurd hqz (by decide)) (fun _ => ?_)
      refine r_iload_n dX7_rows_18 rfl ?_
      refine r_iconst (v := 0) dX7_rows_19 rfl ?_
      refine r_bipush (v := 20) dX7_rows_20 rfl ?_
      refine r_callS3 dX7_rows_22 lk_X7_78 (Nat.le_of_ble_eq_true rfl) (in_t (lim := 21) rfl rfl (by decide) hm ?_)
      refine r_if_eq (tgt := 38) dX7_rows_25 (by decide) (fun hqz => absurd hqz (by decide)) (fun _ => ?_)
      refine r_iload dX7_rows_28 rfl ?_
      refine r_iconst (v := 0) dX7_rows_30 rfl ?_
      refine r_iconst (v := 1) dX7_rows_31 rfl ?_
      refine r_callS3 dX7_rows_32 lk_X7_78 (Nat.le_of_ble_eq_true rfl) (in_t (lim := 2) rfl rfl (by decide) ht ?_)
      refine r_if_ne (tgt := 42) dX7_rows_35 (by decide) (fun _ => ?_) (fun hqz => absurd hqz (by decide))
      refine r_aload_n dX7_rows_42 rfl ?_
      refine r_iload_n dX7_rows_43 rfl ?_
      refine r_callV1 dX7_rows_44 lk_X7_239 (ly_38 hE) rfl (Nat.le_of_ble_eq_true rfl) (sp_fillM hE hW hR hp (fun A1 f1 hm1 hfl => ?_))
      refine r_iconst (v := 0) dX7_rows_47 rfl ?_
      refine r_istore (loc' := [(5, .int 0), (0, .ref 38), (1, .int (nI p)), (2, .int (nI k)), (3, .int (nI m)), (4, .int (nI t))]) dX7_rows_48 (by decide) rfl ?_
      refine qG.pick [0, 1, 2, 3, 4, 5] rfl ?_
      refine mr_init (N := N) hE hW (hR.fm f1) hp 100 0 L (by omega) (fun b hb => absurd hb (Nat.not_lt_zero _)) (fun L2 k2 => ?_)
      refine r_lconst (v := 1) dX7_rows_85 rfl ?_
      refine r_lstore (loc' := [(5, .long 1), (0, .ref 38), (1, .int (nI p)), (2, .int (nI k)), (3, .int (nI m)), (4, .int (nI t))]) dX7_rows_86 (by decide) rfl ?_
      refine r_iconst (v := 0) dX7_rows_88 rfl ?_
      refine r_istore (loc' := [(7, .int 0), (5, .long 1), (0, .ref 38), (1, .int (nI p)), (2, .int (nI k)), (3, .int (nI m)), (4, .int (nI t))]) dX7_rows_89 (by decide) rfl ?_
      refine qG.pick [0, 1, 2, 3, 4, 5, 6] rfl ?_
      refine mr_step hN hE hfl (by omega) m 0 L2 (by omega) k2 (fun L3 k3 => ?_)
      refine r_lconst (v := 0) dX7_rows_225 rfl ?_
      refine r_lstore (loc' := [(7, .long 0), (5, .long (lN (6 ^ m))), (0, .ref 38), (1, .int (nI p)), (2, .int (nI k)), (3, .int (nI m)), (4, .int (nI t))]) dX7_rows_226 (by decide) rfl ?_
      refine r_iconst (v := 0) dX7_rows_228 rfl ?_
      refine r_istore (loc' := [(9, .int 0), (7, .long 0), (5, .long (lN (6 ^ m))), (0, .ref 38), (1, .int (nI p)), (2, .int (nI k)), (3, .int (nI m)), (4, .int (nI t))]) dX7_rows_229 (by decide) rfl ?_
      refine qG.pick [0, 1, 2, 3, 4, 5, 6, 7] rfl ?_
      exact mr_sum hN hE hfl (by omega) ht ha.1 k3 (hk A1 L3 (hR.fm f1) f1.lo) N 0 (by omega)
  · refine ⟨.long (-4611686018427387904), S, T, n, z, ⟨_, rfl⟩, hW, fun A L Ph hR hk => ?_, fun A L Ph hR hk => ?_⟩
    · have K := hk A L hR (fun _ _ => rfl)
      refine qC.enter (by decide) (Nat.le_of_ble_eq_true rfl) ?_
      refine r_aload_n dX6_rows_0 rfl ?_
      refine r_getR dX6_rows_1 fl_X6_10 (ly_0 hEc) rfl ?_
      refine r_iload_n dX6_rows_4 rfl ?_
      refine r_callV1 dX6_rows_5 lk_X6_125 (ly_1 hEc) rfl (Nat.le_of_ble_eq_true rfl) (sp_X2_has hEc n hn (hR.1.2.2.1.trans h60) (fun p hp ep => ?_) (fun _ => ?_))
      · refine r_if_eq (tgt := 38) dX6_rows_8 (by decide) (fun hqz => absurd hqz (by decide)) (fun _ => ?_)
        refine r_iload_n dX6_rows_11 rfl ?_
        refine r_bipush (v := 41) dX6_rows_12 rfl ?_
        refine r_callS2 dX6_rows_14 lk_X6_100 (Nat.le_of_ble_eq_true rfl) (sp_X6_within 41 rfl (by decide) (fun k hk ek => ?_) (fun _ => ?_))
        · refine r_if_eq (tgt := 38) dX6_rows_17 (by decide) (fun hqz => absurd hqz (by decide)) (fun _ => ?_)
          refine r_iload_n dX6_rows_20 rfl ?_
          refine r_bipush (v := 21) dX6_rows_21 rfl ?_
          refine r_callS2 dX6_rows_23 lk_X6_100 (Nat.le_of_ble_eq_true rfl) (sp_X6_within 21 rfl (by decide) (fun m hm em => ?_) (fun _ => ?_))
          · refine r_if_eq (tgt := 38) dX6_rows_26 (by decide) (fun hqz => absurd hqz (by decide)) (fun _ => ?_)
            refine r_iload dX6_rows_29 rfl ?_
            refine r_iconst (v := 2) dX6_rows_31 rfl ?_
            refine r_callS2 dX6_rows_32 lk_X6_100 (Nat.le_of_ble_eq_true rfl) (win_f 2 rfl (by decide) (fun y hy ey => hb ⟨⟨p, hp, ep⟩, ⟨k, hk, ek⟩, ⟨m, hm, em⟩, ⟨y, hy, ey⟩⟩) ?_)
            refine r_if_ne (tgt := 42) dX6_rows_35 (by decide) (fun hqz => absurd (by decide) hqz) (fun _ => ?_)
            refine r_ldc2 dX6_rows_38 kc_X6_196 ?_
            refine r_lreturn dX6_rows_41 rfl ?_
            exact K
          · refine r_if_eq (tgt := 38) dX6_rows_26 (by decide) (fun _ => ?_) (fun hqz => absurd (by decide) hqz)
            refine r_ldc2 dX6_rows_38 kc_X6_196 ?_
            refine r_lreturn dX6_rows_41 rfl ?_
            exact K
        · refine r_if_eq (tgt := 38) dX6_rows_17 (by decide) (fun _ => ?_) (fun hqz => absurd (by decide) hqz)
          refine r_ldc2 dX6_rows_38 kc_X6_196 ?_
          refine r_lreturn dX6_rows_41 rfl ?_
          exact K
      · refine r_if_eq (tgt := 38) dX6_rows_8 (by decide) (fun _ => ?_) (fun hqz => absurd (by decide) hqz)
        refine r_ldc2 dX6_rows_38 kc_X6_196 ?_
        refine r_lreturn dX6_rows_41 rfl ?_
        exact K
    · have K := hk A L hR (fun _ _ => rfl)
      refine qC.enter (by decide) (Nat.le_of_ble_eq_true rfl) ?_
      refine r_aload_n dX7_rows_0 rfl ?_
      refine r_iload_n dX7_rows_1 rfl ?_
      refine r_callV1 dX7_rows_2 lk_X7_82 (ly_38 hE) rfl (Nat.le_of_ble_eq_true rfl) (sp_X7_isPair hE n hn (by rw [hR.1]; exact h60) (fun p hp ep => ?_) (fun _ => ?_))
      · refine r_if_eq (tgt := 38) dX7_rows_5 (by decide) (fun hqz => absurd hqz (by decide)) (fun _ => ?_)
        refine r_iload_n dX7_rows_8 rfl ?_
        refine r_iconst (v := 0) dX7_rows_9 rfl ?_
        refine r_bipush (v := 40) dX7_rows_10 rfl ?_
        refine r_callS3 dX7_rows_12 lk_X7_78 (Nat.le_of_ble_eq_true rfl) (sp_isIn0 41 rfl rfl (by decide) (fun k hk ek => ?_) (fun _ => ?_))
        · refine r_if_eq (tgt := 38) dX7_rows_15 (by decide) (fun hqz => absurd hqz (by decide)) (fun _ => ?_)
          refine r_iload_n dX7_rows_18 rfl ?_
          refine r_iconst (v := 0) dX7_rows_19 rfl ?_
          refine r_bipush (v := 20) dX7_rows_20 rfl ?_
          refine r_callS3 dX7_rows_22 lk_X7_78 (Nat.le_of_ble_eq_true rfl) (sp_isIn0 21 rfl rfl (by decide) (fun m hm em => ?_) (fun _ => ?_))
          · refine r_if_eq (tgt := 38) dX7_rows_25 (by decide) (fun hqz => absurd hqz (by decide)) (fun _ => ?_)
            refine r_iload dX7_rows_28 rfl ?_
            refine r_iconst (v := 0) dX7_rows_30 rfl ?_
            refine r_iconst (v := 1) dX7_rows_31 rfl ?_
            refine r_callS3 dX7_rows_32 lk_X7_78 (Nat.le_of_ble_eq_true rfl) (in_f 2 rfl rfl (by decide) (fun y hy ey => hb ⟨⟨p, hp, ep⟩, ⟨k, hk, ek⟩, ⟨m, hm, em⟩, ⟨y, hy, ey⟩⟩) ?_)
            refine r_if_ne (tgt := 42) dX7_rows_35 (by decide) (fun hqz => absurd (by decide) hqz) (fun _ => ?_)
            refine r_ldc2 dX7_rows_38 kc_X7_230 ?_
            refine r_lreturn dX7_rows_41 rfl ?_
            exact K
          · refine r_if_eq (tgt := 38) dX7_rows_25 (by decide) (fun _ => ?_) (fun hqz => absurd (by decide) hqz)
            refine r_ldc2 dX7_rows_38 kc_X7_230 ?_
            refine r_lreturn dX7_rows_41 rfl ?_
            exact K
        · refine r_if_eq (tgt := 38) dX7_rows_15 (by decide) (fun _ => ?_) (fun hqz => absurd (by decide) hqz)
          refine r_ldc2 dX7_rows_38 kc_X7_230 ?_
          refine r_lreturn dX7_rows_41 rfl ?_
          exact K
      · refine r_if_eq (tgt := 38) dX7_rows_5 (by decide) (fun _ => ?_) (fun hqz => absurd (by decide) hqz)
        refine r_ldc2 dX7_rows_38 kc_X7_230 ?_
        refine r_lreturn dX7_rows_41 rfl ?_
        exact K
end RWS
