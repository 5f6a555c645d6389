/-! the reference's isE is the grammar -/
def Q4 (P : List Int32) : Prop := ∃ P2 x P3, P = P2 ++ x :: P3 ∧ (∀ y, y ∈ P2 → 5 ≤ rkN y) ∧ rkN x = 4
theorem Q4.app {P P' : List Int32} (h : Q4 P) : Q4 (P ++ P') := by
  obtain ⟨P2, x, P3, e, h1, h2⟩ := h
  exact ⟨P2, x, P3 ++ P', by rw [e]; simp, h1, h2⟩
def SK (E : mE) (f : Nat → Int32) (z T e R nj : Nat) (q4 : Bool) (W out : List Int32) (A : mA) (L : mJ) (Ph : mP) : rsT → Prop
  | .inl j => ∀ A', MF T A A' → A' 38 6 = nI (tS f z j) → Ph (some (.int 0)) A' L
  | .inr (j, c) => ∀ A' P out', MF T A A' → MS A' f z T j (P ++ W) out' → out' ++ P = out ++ c → (∀ x, x ∈ P → R ≤ rkN x) → (∀ l, l < 4 → nj ≤ l → ¬ jn l (tk f z j) = true) → (q4 = true → tk f z j = 60 ∨ tk f z j = 61 → Q4 P) → qG E mm_X7_isE e 43 [(0, .ref 38)] [] A' L Ph
def SM (E : mE) (f : Nat → Int32) (z T e F k R nj : Nat) (q4 : Bool) (b : Nat) (nc : Bool) (rk : Nat) : Prop := ∀ (op i : Nat) (W out : List Int32) (A : mA) (L : mJ) (Ph : mP), i ≤ tE f z i → W.length + out.length ≤ i → cn W = op → op ≤ 5 → la W < b → (nc = true → tk f z i = 11 → op < 5 → 3 < la W) → 16 * (161 - i) + rk + 1 ≤ F → MS A f z T i W out → SK E f z T e R nj q4 W out A L Ph (pz (tk f z) (am f z) F k op i) → BQ E e A L Ph
def SK1 (E : mE) (f : Nat → Int32) (z T e : Nat) (W out : List Int32) (A : mA) (L : mJ) (Ph : mP) : rsT → Prop
  | .inl j => ∀ A', MF T A A' → A' 38 6 = nI (tS f z j) → Ph (some (.int 0)) A' L
  | .inr (j, c) => ∀ A', MF T A A' → MS A' f z T j (seF 7 W (out ++ c)).1 (seF 7 W (out ++ c)).2 → qG E mm_X7_isE e 43 [(0, .ref 38)] [] A' L Ph
def SO (E : mE) (f : Nat → Int32) (z T e F : Nat) : Prop := ∀ (op i : Nat) (W out : List Int32) (A : mA) (L : mJ) (Ph : mP), i ≤ tE f z i → W.length + out.length ≤ i → cn W = op → op ≤ 5 → (tk f z i = 11 → op < 5 → 3 < la W) → 16 * (161 - i) + 1 + 1 ≤ F → MS A f z T i W out → SK1 E f z T e W out A L Ph (pz (tk f z) (am f z) F 5 op i) → BQ E e A L Ph
def RR (k : Nat) : Nat := if k = 0 then 1 else if k = 1 then 2 else if k = 2 then 5 else 6
theorem jn_facts {k : Nat} {t : Int32} (hk : k < 4) (h : jn k t = true) : btw t = dO t ∧ ¬ t = 41 ∧ ¬ (dO t = 0 ∨ dO t = -22 ∨ dO t = -28) ∧ rkN (dO t) = RR k ∧ ¬ rkN (dO t) = 4 := by
  rcases (show k = 0 ∨ k = 1 ∨ k = 2 ∨ k = 3 by omega) with rfl | rfl | rfl | rfl
  · have h : t = 9 := of_decide_eq_true h
    subst h; decide
  · have h : t = 10 := of_decide_eq_true h
    subst h; decide
  · have h : t = 43 ∨ t = 45 := of_decide_eq_true h
    rcases h with rfl | rfl <;> decide
  · have h : t = 42 := of_decide_eq_true h
    subst h; decide
theorem cmp_facts {t : Int32} (h : t = 60 ∨ t = 61) : btw t = dO t ∧ ¬ t = 41 ∧ ¬ (dO t = 0 ∨ dO t = -22 ∨ dO t = -28) ∧ rkN (dO t) = 4 ∧ t ≠ 301 := by
  rcases h with rfl | rfl <;> decide
theorem cn_no {x : Int32} {W : List Int32} (h : ¬ (x = 0 ∨ x = -22 ∨ x = -28)) : cn (x :: W) = cn W := by rw [cn, if_neg h, Nat.add_zero]
/-- no deed between two, no bracket: nothing that goes on -/
theorem btw_0 {t : Int32} (h : ∀ l, l < 4 → 0 ≤ l → ¬ jn l t = true) (hc : ¬ (t = 60 ∨ t = 61)) : btw t = 0 := by
  have h0 : ¬ t = 9 := fun y => h 0 (by decide) (Nat.le_refl _) (decide_eq_true y)
  have h1 : ¬ t = 10 := fun y => h 1 (by decide) (Nat.zero_le _) (decide_eq_true y)
  have h2 : ¬ t = 43 := fun y => h 2 (by decide) (Nat.zero_le _) (decide_eq_true (Or.inl y))
  have h3 : ¬ t = 45 := fun y => h 2 (by decide) (Nat.zero_le _) (decide_eq_true (Or.inr y))
  have h4 : ¬ t = 42 := fun y => h 3 (by decide) (Nat.zero_le _) (decide_eq_true y)
  have h5 : ¬ t = 60 := fun y => hc (Or.inl y)
  have h6 : ¬ t = 61 := fun y => hc (Or.inr y)
  unfold btw
  rw [if_neg h0, if_neg h1, if_neg h5, if_neg h6, if_neg h2, if_neg h3, if_neg h4]
section SIM
variable {E : mE} {d : Nat} {f : Nat → Int32} {z T : Nat}
set_option maxHeartbeats 1000000 in
theorem sim_tail (hE : hM E) (hz : z ≤ 160) (hf : ∀ j, j < z → ∃ b, b < 256 ∧ f j = nI b) (hT : T < 6) {k Rl bl rkl : Nat} {q4 nc : Bool} (hk : k < 4) (hRl : RR k ≤ Rl) (hbl : RR k < bl) (hnc : nc = true → 3 < RR k) (hrk : rkl ≤ 6) {F0 : Nat} (hL : ∀ F, F < F0 → SM E f z T (d + 3) F (lk k) Rl (k + 1) q4 bl nc rkl) : ∀ F, F ≤ F0 → ∀ (op j : Nat) (W P out out0 : List Int32) (A : mA) (L : mJ) (Ph : mP), j ≤ tE f z j → P.length + W.length + out.length ≤ j → cn W = op → op ≤ 5 → la W < RR k → 16 * (161 - j) + 1 ≤ F → MS A f z T j (P ++ W) out → out ++ P = out0 → (∀ x, x ∈ P → RR k ≤ rkN x) → (∀ l, l < 4 → k + 1 ≤ l → ¬ jn l (tk f z j) = true) → (q4 = true → tk f z j = 60 ∨ tk f z j = 61 → Q4 P) → SK E f z T (d + 3) (RR k) k q4 W out0 A L Ph (pz (tk f z) (am f z) F (k + 10) op j) → qG E mm_X7_isE (d + 3) 43 [(0, .ref 38)] [] A L Ph := by
  have hR0 : 0 < RR k := by unfold RR; split; decide; split; decide; split <;> decide
  intro F
  induction F with
  | zero => intro _ op j W P out out0 A L Ph _ _ _ _ _ hF; omega
  | succ F ih =>
    intro hF0 op j W P out out0 A L Ph hj hl hcn hop hla hF hs heo hP hnj hq h
    have h160 := (tE_le (f := f) hz j).1
    have hlo : out0.length = out.length + P.length := by rw [← heo, List.length_append]
    by_cases ht : jn k (tk f z j) = true
    · obtain ⟨t1, t2, t3, t4, t5⟩ := jn_facts hk ht
      have hv := vl_up hz hf hj (dT_ne (jn_dT ht))
      have hse : seF (rkN (dO (tk f z j))) (P ++ W) out = (W, out0) := by
        rw [t4, seF_all hR0 hP hla, heo]
      refine af_deed hE hz hf hT (by rw [List.length_append]; omega) hs t2 t1 t3 t5 hse (fun A1 f1 s1 => ?_)
      refine hL F (by omega) op (j + 1) (dO (tk f z j) :: W) out0 A1 L Ph hv.1 (by rw [List.length_cons]; omega) (by rw [cn_no t3]; exact hcn) hop (by show rkN (dO (tk f z j)) < bl; omega) (fun y _ _ => by show 3 < rkN (dO (tk f z j)); rw [t4]; exact hnc y) (by omega) s1 ?_
      rcases rs_cases (pz (tk f z) (am f z) F (lk k) op (j + 1)) with ⟨j1, e1⟩ | ⟨j1, c1, e1⟩
      · rw [pz_t1 ht e1] at h
        rw [e1]
        exact fun A' fa e => h A' (f1.tr fa) e
      · rw [e1]
        have hlk : lk k ≤ 5 := by unfold lk; split; decide; split; decide; split <;> decide
        have pv := pzv hz hf (Or.inl hlk) e1 hv.1
        have plt := pv.2.2.1 (by omega)
        intro A2 P1 out1 f2 s2 eo hP1 hnj1 hq1
        have hv1 := (tE_le (f := f) hz j1).1
        have hlen : out1.length + P1.length = out0.length + c1.length := by rw [← List.length_append, eo, List.length_append]
        refine ih (by omega) op j1 W (P1 ++ [dO (tk f z j)]) out1 (out0 ++ c1 ++ [dO (tk f z j)]) A2 L Ph pv.1 (by rw [List.length_append, List.length_singleton]; omega) hcn hop hla (by omega) (by rw [List.append_assoc]; exact s2) (by rw [← List.append_assoc, eo]) (fun x hx => ?_) hnj1 (fun a b => (hq1 a b).app) ?_
        · rcases List.mem_append.mp hx with y | y
          · exact Nat.le_trans hRl (hP1 x y)
          · rw [List.mem_singleton.mp y, t4]; exact Nat.le_refl _
        · rcases rs_cases (pz (tk f z) (am f z) F (k + 10) op j1) with ⟨j2, e2⟩ | ⟨j2, c2, e2⟩
          · rw [pz_t2 ht e1 e2] at h
            rw [e2]
            exact fun A' fa e => h A' ((f1.tr f2).tr fa) e
          · rw [pz_t3 ht e1 e2] at h
            rw [e2]
            intro A' P' out' fa sa ea
            exact h A' P' out' ((f1.tr f2).tr fa) sa (by rw [ea]; simp)
    · rw [pz_t0 ht] at h
      refine h A P out MF.rf hs (by rw [List.append_nil]; exact heo) hP (fun l hl4 hkl => ?_) hq
      rcases Nat.eq_or_lt_of_le hkl with y | y
      · rw [← y]; exact ht
      · exact hnj l hl4 y
set_option maxHeartbeats 1000000 in
theorem sim_chain (hE : hM E) (hz : z ≤ 160) (hf : ∀ j, j < z → ∃ b, b < 256 ∧ f j = nI b) (hT : T < 6) {k Rl bl rkl : Nat} {q4 nc : Bool} (hk : k < 4) (hRl : RR k ≤ Rl) (hbl : RR k < bl) (hnc : nc = true → 3 < RR k) (hrk : rkl ≤ 6) {F0 : Nat} (hL : ∀ F, F < F0 → SM E f z T (d + 3) F (lk k) Rl (k + 1) q4 bl nc rkl) : SM E f z T (d + 3) F0 k (RR k) k q4 (RR k) nc (rkl + 1) := by
  intro op i W out A L Ph hi hl hcn hop hla hN hF hs h
  obtain ⟨F, rfl⟩ : ∃ F, F0 = F + 1 := ⟨F0 - 1, by omega⟩
  have h160 := (tE_le (f := f) hz i).1
  refine hL F (by omega) op i W out A L Ph hi hl hcn hop (by omega) hN (by omega) hs ?_
  rcases rs_cases (pz (tk f z) (am f z) F (lk k) op i) with ⟨j1, e1⟩ | ⟨j1, c1, e1⟩
  · rw [pz_c0 hk e1] at h
    rw [e1]
    exact h
  · rw [e1]
    have hlk : lk k ≤ 5 := by unfold lk; split; decide; split; decide; split <;> decide
    have pv := pzv hz hf (Or.inl hlk) e1 hi
    have plt := pv.2.2.1 (by omega)
    intro A2 P1 out1 f2 s2 eo hP1 hnj1 hq1
    have hv1 := (tE_le (f := f) hz j1).1
    have hlen : out1.length + P1.length = out.length + c1.length := by rw [← List.length_append, eo, List.length_append]
    refine sim_tail hE hz hf hT hk hRl hbl hnc hrk (F0 := F) (fun F' h' => hL F' (by omega)) F (Nat.le_refl _) op j1 W P1 out1 (out ++ c1) A2 L Ph pv.1 (by omega) hcn hop hla (by omega) s2 eo (fun x hx => Nat.le_trans hRl (hP1 x hx)) hnj1 hq1 ?_
    rcases rs_cases (pz (tk f z) (am f z) F (k + 10) op j1) with ⟨j2, e2⟩ | ⟨j2, c2, e2⟩
    · rw [pz_c1 hk e1 e2] at h
      rw [e2]
      exact fun A' fa e => h A' (f2.tr fa) e
    · rw [pz_c2 hk e1 e2] at h
      rw [e2]
      intro A' P' out' fa sa ea
      exact h A' P' out' (f2.tr fa) sa (by rw [ea]; simp)
theorem sim_link {F : Nat} (h : SO E f z T (d + 3) F) : SM E f z T (d + 3) F 5 7 4 false 7 true 1 := by
  intro op i W out A L Ph hi hl hcn hop hla hN hF hs hk
  refine h op i W out A L Ph hi hl hcn hop (hN rfl) hF hs ?_
  rcases rs_cases (pz (tk f z) (am f z) F 5 op i) with ⟨j1, e1⟩ | ⟨j1, c1, e1⟩
  · rw [e1] at hk ⊢
    exact hk
  · rw [e1] at hk ⊢
    intro A' fa sa
    rw [seF_la hla] at sa
    exact hk A' [] (out ++ c1) fa sa (List.append_nil _) (fun x hx => absurd hx List.not_mem_nil) (fun l hl hl4 => by omega) (fun y => absurd y (by decide))
set_option maxHeartbeats 1000000 in
theorem sim_den (hE : hM E) (hz : z ≤ 160) (hf : ∀ j, j < z → ∃ b, b < 256 ∧ f j = nI b) (hT : T < 6) {F : Nat} (h2 : SM E f z T (d + 3) F 2 5 2 false 5 true 3) (hD : SM E f z T (d + 3) F 4 3 2 true 4 false 4) : SM E f z T (d + 3) (F + 1) 4 3 2 true 4 false 4 := by
  intro op i W out A L Ph hi hl hcn hop hla _ hF hs h
  have h160 := (tE_le (f := f) hz i).1
  by_cases ht : tk f z i = 11 ∧ op < 5
  · have hv := vl_up hz hf hi (by rw [ht.1]; decide)
    refine be_not hE hz hf hT (by omega) hs ht.1 (by omega) (by omega) (fun A1 f1 s1 => ?_)
    refine hD (op + 1) (i + 1) (-22 :: W) out A1 L Ph hv.1 (by rw [List.length_cons]; omega) (by rw [cn, if_pos (by decide), hcn]) (by omega) (show 3 < 4 by decide) (fun y => absurd y (by decide)) (by omega) s1 ?_
    rcases rs_cases (pz (tk f z) (am f z) F 4 (op + 1) (i + 1)) with ⟨j1, e1⟩ | ⟨j1, c1, e1⟩
    · rw [pz_n0 ht e1] at h
      rw [e1]
      exact fun A' fa e => h A' (f1.tr fa) e
    · rw [pz_n1 ht e1] at h
      rw [e1]
      intro A2 P1 out1 f2 s2 eo hP1 hnj1 hq1
      refine h A2 (P1 ++ [-22]) out1 (f1.tr f2) (by rw [List.append_assoc]; exact s2) (by rw [← List.append_assoc, eo, List.append_assoc]) (fun x hx => ?_) hnj1 (fun a b => (hq1 a b).app)
      rcases List.mem_append.mp hx with y | y
      · exact hP1 x y
      · rw [List.mem_singleton.mp y]; decide
  · refine h2 op i W out A L Ph hi hl hcn hop (by omega) (fun _ y z => absurd ⟨y, z⟩ ht) (by omega) hs ?_
    rcases rs_cases (pz (tk f z) (am f z) F 2 op i) with ⟨j1, e1⟩ | ⟨j1, c1, e1⟩
    · rw [pz_d0 ht e1] at h
      rw [e1]
      exact h
    · rw [e1]
      have pv := pzv hz hf (by decide) e1 hi
      have plt := pv.2.2.1 (by decide)
      have hv1 := (tE_le (f := f) hz j1).1
      intro A2 P1 out1 f2 s2 eo hP1 hnj1 _
      have hlen : out1.length + P1.length = out.length + c1.length := by rw [← List.length_append, eo, List.length_append]
      by_cases hc : tk f z j1 = 60 ∨ tk f z j1 = 61
      · obtain ⟨t1, t2, t3, t4, t5⟩ := cmp_facts hc
        have hv2 := vl_up hz hf pv.1 t5
        have hse : seF 5 (P1 ++ W) out1 = (W, out ++ c1) := by rw [seF_all (by decide) hP1 (by omega), eo]
        have hlo : (out ++ c1).length = out.length + c1.length := List.length_append
        refine af_cmp hE hz hf hT (by rw [List.length_append]; omega) s2 t2 t1 t3 t4 hse (by omega) (fun A3 f3 s3 => ?_)
        refine h2 op (j1 + 1) (dO (tk f z j1) :: W) (out ++ c1) A3 L Ph hv2.1 (by rw [List.length_cons]; omega) (by rw [cn_no t3]; exact hcn) hop (by show rkN (dO (tk f z j1)) < 5; omega) (fun _ _ _ => by show 3 < rkN (dO (tk f z j1)); omega) (by omega) s3 ?_
        rcases rs_cases (pz (tk f z) (am f z) F 2 op (j1 + 1)) with ⟨j2, e2⟩ | ⟨j2, c2, e2⟩
        · rw [pz_d2 ht e1 hc e2] at h
          rw [e2]
          exact fun A' fa e => h A' ((f2.tr f3).tr fa) e
        · rw [pz_d3 ht e1 hc e2] at h
          rw [e2]
          intro A4 P2 out2 f4 s4 eo2 hP2 hnj2 _
          refine h A4 (P2 ++ [dO (tk f z j1)]) out2 ((f2.tr f3).tr f4) (by rw [List.append_assoc]; exact s4) (by rw [← List.append_assoc, eo2]; simp) (fun x hx => ?_) hnj2 (fun _ _ => ⟨P2, dO (tk f z j1), [], rfl, hP2, t4⟩)
          rcases List.mem_append.mp hx with y | y
          · exact Nat.le_trans (by decide) (hP2 x y)
          · rw [List.mem_singleton.mp y, t4]; decide
      · rw [pz_d1 ht e1 hc] at h
        exact h A2 P1 out1 f2 s2 eo (fun x hx => Nat.le_trans (by decide) (hP1 x hx)) hnj1 (fun _ y => absurd y hc)
set_option maxHeartbeats 1000000 in
theorem sim_one (hE : hM E) (hz : z ≤ 160) (hf : ∀ j, j < z → ∃ b, b < 256 ∧ f j = nI b) (hT : T < 6) {F : Nat} (hO : SO E f z T (d + 3) F) (h0 : SM E f z T (d + 3) F 0 1 0 true 1 false 6) : SO E f z T (d + 3) (F + 1) := by
  intro op i W out A L Ph hi hl hcn hop hN hF hs h
  have h160 := (tE_le (f := f) hz i).1
  by_cases h1 : tk f z i = 300
  · have hv := vl_up hz hf hi (by rw [h1]; decide)
    rw [pz_o1 h1] at h
    exact be_num hE hz hf hT (by omega) hs h1 (fun A' fa sa => h A' fa sa)
  · by_cases h2 : 0 ≤ tk f z i ∧ tk f z i < 6
    · have hv := vl_up hz hf hi (fun y => by rw [y] at h2; exact absurd h2.2 (by decide))
      rw [pz_o2 h1 h2] at h
      exact be_name hE hz hf hT (by omega) hs h2 (fun A' fa sa => h A' fa sa)
    · by_cases h3 : tk f z i = 45 ∧ op < 5
      · have hv := vl_up hz hf hi (by rw [h3.1]; decide)
        refine be_mi hE hz hf hT (by omega) hs h3.1 (by omega) (fun A1 f1 s1 => ?_)
        refine hO (op + 1) (i + 1) (-28 :: W) out A1 L Ph hv.1 (by rw [List.length_cons]; omega) (by rw [cn, if_pos (by decide), hcn]) (by omega) (fun _ _ => show 3 < 7 by decide) (by omega) s1 ?_
        rcases rs_cases (pz (tk f z) (am f z) F 5 (op + 1) (i + 1)) with ⟨j1, e1⟩ | ⟨j1, c1, e1⟩
        · rw [pz_o3 h1 h2 h3 e1] at h
          rw [e1]
          exact fun A' fa e => h A' (f1.tr fa) e
        · rw [pz_o4 h1 h2 h3 e1] at h
          rw [e1]
          intro A2 f2 s2
          rw [seF, if_pos (by decide)] at s2
          refine h A2 (f1.tr f2) ?_
          rw [← List.append_assoc]
          exact s2
      · by_cases h4 : tk f z i = 40 ∧ op < 5
        · have hv := vl_up hz hf hi (by rw [h4.1]; decide)
          refine be_br hE hz hf hT (by omega) hs h4.1 (by omega) (fun A1 f1 s1 => ?_)
          refine h0 (op + 1) (i + 1) (0 :: W) out A1 L Ph hv.1 (by rw [List.length_cons]; omega) (by rw [cn0, hcn]) (by omega) (show 0 < 1 by decide) (fun y => absurd y (by decide)) (by omega) s1 ?_
          rcases rs_cases (pz (tk f z) (am f z) F 0 (op + 1) (i + 1)) with ⟨j1, e1⟩ | ⟨j1, c1, e1⟩
          · rw [pz_o5 h1 h2 h3 h4 e1] at h
            rw [e1]
            exact fun A' fa e => h A' (f1.tr fa) e
          · rw [e1]
            have pv := pzv hz hf (by decide) e1 hv.1
            have plt := pv.2.2.1 (by decide)
            have hv1 := (tE_le (f := f) hz j1).1
            intro A2 P1 out1 f2 s2 eo hP1 hnj1 hq1
            have hlen : out1.length + P1.length = out.length + c1.length := by rw [← List.length_append, eo, List.length_append]
            have hla0 : la (0 :: W) < 1 := by show 0 < 1; decide
            have hse : seF 1 (P1 ++ 0 :: W) out1 = (0 :: W, out ++ c1) := by rw [seF_all (by decide) hP1 hla0, eo]
            by_cases h5 : tk f z j1 = 41
            · rw [pz_o7 h1 h2 h3 h4 e1 h5] at h
              exact af_close1 hE hz hf hT (by rw [List.length_append, List.length_cons]; omega) s2 h5 hse (fun A3 f3 s3 => h A3 ((f1.tr f2).tr f3) s3)
            · rw [pz_o6 h1 h2 h3 h4 e1 h5] at h
              by_cases hc : tk f z j1 = 60 ∨ tk f z j1 = 61
              · obtain ⟨t1, t2, t3, t4, t5⟩ := cmp_facts hc
                obtain ⟨P2, x, P3, eP, hP2, hx4⟩ := hq1 rfl hc
                have hse5 : seF 5 (P1 ++ 0 :: W) out1 = (x :: (P3 ++ 0 :: W), out1 ++ P2) := by
                  rw [eP, List.append_assoc]
                  exact seF_all (by decide) hP2 (show rkN x < 5 by omega)
                exact af_cmpx hE hz hf hT (by rw [List.length_append, List.length_cons]; omega) s2 h5 t1 t3 t4 hse5 hx4 (fun A3 f3 e3 => h A3 ((f1.tr f2).tr f3) e3)
              · exact af_end hE hz hf hT (by rw [List.length_append, List.length_cons]; omega) s2 h5 (btw_0 hnj1 hc) (fun _ A3 f3 e3 => h A3 ((f1.tr f2).tr f3) e3) (fun y => absurd y (by rw [hse]; exact List.cons_ne_nil _ _))
        · rw [pz_o8 h1 h2 h3 h4] at h
          have key : op < 5 ∨ cn W = 5 := by omega
          exact be_fail hE hz hf hT (by omega) hs h1 h2 (by omega) (fun y => by rcases key with q | q; exact absurd ⟨y, q⟩ h3; exact q) (fun y => by rcases key with q | q; exact absurd ⟨y, q⟩ h4; exact q) (fun y hla => by
            rcases key with q | q
            · have := hN y q
              omega
            · exact q) h
theorem sim_all (hE : hM E) (hz : z ≤ 160) (hf : ∀ j, j < z → ∃ b, b < 256 ∧ f j = nI b) (hT : T < 6) : ∀ F, SM E f z T (d + 3) F 0 1 0 true 1 false 6 ∧ SM E f z T (d + 3) F 1 2 1 true 2 false 5 ∧ SM E f z T (d + 3) F 2 5 2 false 5 true 3 ∧ SM E f z T (d + 3) F 3 6 3 false 6 true 2 ∧ SM E f z T (d + 3) F 4 3 2 true 4 false 4 ∧ SO E f z T (d + 3) F := by
  intro F
  induction F using Nat.strongRecOn with
  | _ F ih =>
    refine ⟨sim_chain (k := 0) hE hz hf hT (by decide) (Rl := 2) (by decide) (bl := 2) (by decide) (fun y => absurd y (by decide)) (rkl := 5) (by decide) (fun F' h => (ih F' h).2.1), sim_chain (k := 1) hE hz hf hT (by decide) (Rl := 3) (by decide) (bl := 4) (by decide) (fun y => absurd y (by decide)) (rkl := 4) (by decide) (fun F' h => (ih F' h).2.2.2.2.1), sim_chain (k := 2) hE hz hf hT (by decide) (Rl := 6) (by decide) (bl := 6) (by decide) (fun _ => by decide) (rkl := 2) (by decide) (fun F' h => (ih F' h).2.2.2.1), sim_chain (k := 3) hE hz hf hT (by decide) (Rl := 7) (by decide) (bl := 7) (by decide) (fun _ => by decide) (rkl := 1) (by decide) (fun F' h => sim_link (ih F' h).2.2.2.2.2), ?_, ?_⟩
    · rcases Nat.eq_zero_or_pos F with q | q
      · subst q
        intro op i W out A L Ph _ _ _ _ _ _ hF
        omega
      · obtain ⟨F', rfl⟩ : ∃ F', F = F' + 1 := ⟨F - 1, by omega⟩
        exact sim_den hE hz hf hT (ih F' (by omega)).2.2.1 (ih F' (by omega)).2.2.2.2.1
    · rcases Nat.eq_zero_or_pos F with q | q
      · subst q
        intro op i W out A L Ph _ _ _ _ _ hF
        omega
      · obtain ⟨F', rfl⟩ : ∃ F', F = F' + 1 := ⟨F - 1, by omega⟩
        exact sim_one hE hz hf hT (ih F' (by omega)).2.2.2.2.2 (ih F' (by omega)).1
end SIM
