/-! the reference reads a text: what waits, what is written -/
def rkN (c : Int32) : Nat := if c = 0 then 0 else if c = -20 then 1 else if c = -21 then 2 else if c = -22 then 3 else if c = -23 ∨ c = -24 then 4 else if c = -27 then 6 else if c = -28 then 7 else 5
theorem rkN_le (c : Int32) : rkN c ≤ 7 := by
  unfold rkN
  repeat (split; decide)
  decide
def la : List Int32 → Nat
  | [] => 0
  | c :: _ => rkN c
def cn : List Int32 → Nat
  | [] => 0
  | c :: W => cn W + (if c = 0 ∨ c = -22 ∨ c = -28 then 1 else 0)
def seF (r : Nat) : List Int32 → List Int32 → List Int32 × List Int32
  | [], out => ([], out)
  | c :: W, out => if 0 < rkN c ∧ r ≤ rkN c then seF r W (out ++ [c]) else (c :: W, out)
def btw (t : Int32) : Int32 := if t = 9 then -20 else if t = 10 then -21 else if t = 60 then -23 else if t = 61 then -24 else if t = 43 then -25 else if t = 45 then -26 else if t = 42 then -27 else 0
def MS (A : mA) (f : Nat → Int32) (z T i : Nat) (W out : List Int32) : Prop := MK A f z i ∧ A 38 8 = nI (cn W) ∧ A 38 11 = nI T ∧ A 38 12 = nI out.length ∧ A 38 15 = nI W.length ∧ sk (A 45) W ∧ (∀ j, j < out.length → A 42 (160 * T + j) = out.getD j 0) ∧ ∀ j, j < 72 → A 44 j = mNm j
def MF (T : Nat) (A A' : mA) : Prop := Fr [38, 42, 45] A A' ∧ (∀ j, j < 160 * T → A' 42 j = A 42 j) ∧ A' 38 2 = A 38 2 ∧ A' 38 4 = A 38 4 ∧ A' 38 11 = A 38 11
theorem MF.rf {T : Nat} {A : mA} : MF T A A := ⟨Fr.rf, fun _ _ => rfl, rfl, rfl, rfl⟩
theorem MF.tr {T : Nat} {A B C : mA} (h1 : MF T A B) (h2 : MF T B C) : MF T A C := ⟨h1.1.tr h2.1, fun j hj => (h2.2.1 j hj).trans (h1.2.1 j hj), h2.2.2.1.trans h1.2.2.1, h2.2.2.2.1.trans h1.2.2.2.1, h2.2.2.2.2.trans h1.2.2.2.2⟩
theorem F8.mf {T : Nat} {X : List Nat} {A A' : mA} (h : F8 X A A') (h2 : 2 ∉ X) (h4 : 4 ∉ X) (h11 : 11 ∉ X) : MF T A A' := ⟨h.1.mo (by decide), fun j _ => by rw [h.1 42 (by decide)], h.2 2 h2, h.2 4 h4, h.2 11 h11⟩
theorem nor2 {a b : Prop} (h1 : ¬ a) (h2 : ¬ b) : ¬ (a ∨ b) := fun y => y.elim h1 h2
def wrA (A : mA) (T w : Nat) (x : Int32) : mA := s2 (s2 A 42 (160 * T + w) x) 38 12 (nI (w + 1))
theorem wrA_mf {A : mA} {T w : Nat} {x : Int32} : MF T A (wrA A T w x) := by
  unfold wrA
  refine ⟨(Fr.s2 (by decide)).tr (Fr.s2 (by decide)), fun j hj => ?_, ?_, ?_, ?_⟩
  · rw [s2_ne (by decide), s2_nj (fun _ => by omega)]
  · rw [s2_nj (fun _ => by decide), s2_ne (by decide)]
  · rw [s2_nj (fun _ => by decide), s2_ne (by decide)]
  · rw [s2_nj (fun _ => by decide), s2_ne (by decide)]
theorem wrA_38 {A : mA} {T w j : Nat} {x : Int32} (h : j ≠ 12) : wrA A T w x 38 j = A 38 j := by unfold wrA; rw [s2_nj (fun _ => h), s2_ne (by decide)]
theorem wrA_k {A : mA} {T w k : Nat} {x : Int32} (h : k ≠ 38) (h2 : k ≠ 42) : wrA A T w x k = A k := by unfold wrA; rw [s2_ne h, s2_ne h2]
theorem MK.cg {A A' : mA} {f : Nat → Int32} {z i : Nat} (h : MK A f z i) (e41 : A' 41 = A 41) (e4 : A' 38 4 = A 38 4) (e5 : A' 38 5 = A 38 5) (e6 : A' 38 6 = A 38 6) (e7 : A' 38 7 = A 38 7) : MK A' f z i := by
  unfold MK at *
  rw [e41, e4, e5, e6, e7]
  exact h
theorem MS.wr {A : mA} {f : Nat → Int32} {z T i : Nat} {W out : List Int32} {x : Int32} (h : MS A f z T i W out) : MS (wrA A T out.length x) f z T i W (out ++ [x]) := by
  obtain ⟨h1, h2, h3, h4, h5, h6, h7, h8⟩ := h
  refine ⟨h1.cg (wrA_k (by decide) (by decide)) (wrA_38 (by decide)) (wrA_38 (by decide)) (wrA_38 (by decide)) (wrA_38 (by decide)), by rw [wrA_38 (by decide)]; exact h2, by rw [wrA_38 (by decide)]; exact h3, ?_, by rw [wrA_38 (by decide)]; exact h5, by rw [wrA_k (by decide) (by decide)]; exact h6, fun j hj => ?_, by rw [wrA_k (by decide) (by decide)]; exact h8⟩
  · unfold wrA
    rw [s2_same, List.length_append, List.length_singleton]
  · unfold wrA
    rw [s2_ne (by decide)]
    rw [List.length_append, List.length_singleton] at hj
    rcases Nat.lt_or_ge j out.length with q | q
    · rw [s2_nj (fun _ => by omega), getD_app1 q]; exact h7 j q
    · rw [show j = out.length by omega, s2_same, getD_app2]
def awA (A : mA) (n : Nat) (x : Int32) : mA := s2 (s2 A 45 n x) 38 15 (nI (n + 1))
theorem MS.nx {A A' : mA} {f : Nat → Int32} {z T i i' : Nat} {W out : List Int32} (h : MS A f z T i W out) (f1 : F8 [5, 6, 7] A A') (hk : MK A' f z i') : MS A' f z T i' W out := by
  obtain ⟨h1, h2, h3, h4, h5, h6, h7, h8⟩ := h
  refine ⟨hk, (f1.2 8 (by decide)).trans h2, (f1.2 11 (by decide)).trans h3, (f1.2 12 (by decide)).trans h4, (f1.2 15 (by decide)).trans h5, ?_, ?_, ?_⟩
  · rw [f1.1 45 (by decide)]; exact h6
  · rw [f1.1 42 (by decide)]; exact h7
  · rw [f1.1 44 (by decide)]; exact h8
/-- a deed more waits; it opens, or it doesn't -/
theorem MS.aw {A : mA} {f : Nat → Int32} {z T i : Nat} {W out : List Int32} {x : Int32} (h : MS A f z T i W out) (hx : ¬ (x = 0 ∨ x = -22 ∨ x = -28)) : MS (awA A W.length x) f z T i (x :: W) out := by
  obtain ⟨h1, h2, h3, h4, h5, h6, h7, h8⟩ := h
  have e38 : ∀ j, j ≠ 15 → awA A W.length x 38 j = A 38 j := fun j hj => by unfold awA; rw [s2_nj (fun _ => hj), s2_ne (by decide)]
  have ek : ∀ k, k ≠ 38 → k ≠ 45 → awA A W.length x k = A k := fun k a b => by unfold awA; rw [s2_ne a, s2_ne b]
  refine ⟨h1.cg (ek _ (by decide) (by decide)) (e38 _ (by decide)) (e38 _ (by decide)) (e38 _ (by decide)) (e38 _ (by decide)), ?_, by rw [e38 _ (by decide)]; exact h3, by rw [e38 _ (by decide)]; exact h4, ?_, ?_, by rw [ek _ (by decide) (by decide)]; exact h7, by rw [ek _ (by decide) (by decide)]; exact h8⟩
  · rw [e38 _ (by decide), cn, if_neg hx, Nat.add_zero]; exact h2
  · unfold awA; exact s2_same
  · unfold awA
    rw [s2_ne (by decide), s2_eq]
    exact sk_push h6
theorem MS.op {A : mA} {f : Nat → Int32} {z T i : Nat} {W out : List Int32} {x : Int32} (h : MS A f z T i W out) (hx : x = 0 ∨ x = -22 ∨ x = -28) : MS (awA (s2 A 38 8 (nI (cn W + 1))) W.length x) f z T i (x :: W) out := by
  obtain ⟨h1, h2, h3, h4, h5, h6, h7, h8⟩ := h
  have e38 : ∀ j, j ≠ 15 → j ≠ 8 → awA (s2 A 38 8 (nI (cn W + 1))) W.length x 38 j = A 38 j := fun j hj h8 => by unfold awA; rw [s2_nj (fun _ => hj), s2_ne (by decide), s2_nj (fun _ => h8)]
  have ek : ∀ k, k ≠ 38 → k ≠ 45 → awA (s2 A 38 8 (nI (cn W + 1))) W.length x k = A k := fun k a b => by unfold awA; rw [s2_ne a, s2_ne b, s2_ne a]
  refine ⟨h1.cg (ek _ (by decide) (by decide)) (e38 _ (by decide) (by decide)) (e38 _ (by decide) (by decide)) (e38 _ (by decide) (by decide)) (e38 _ (by decide) (by decide)), ?_, by rw [e38 _ (by decide) (by decide)]; exact h3, by rw [e38 _ (by decide) (by decide)]; exact h4, ?_, ?_, by rw [ek _ (by decide) (by decide)]; exact h7, by rw [ek _ (by decide) (by decide)]; exact h8⟩
  · rw [cn, if_pos hx]
    unfold awA
    rw [s2_nj (fun _ => by decide), s2_ne (by decide), s2_same]
  · unfold awA; exact s2_same
  · unfold awA
    rw [s2_ne (by decide), s2_eq, s2_ne (by decide)]
    exact sk_push h6
theorem awA_mf {A : mA} {T n : Nat} {x : Int32} : MF T A (awA A n x) := by
  unfold awA
  refine ⟨(Fr.s2 (by decide)).tr (Fr.s2 (by decide)), fun j hj => ?_, ?_, ?_, ?_⟩
  · rw [s2_ne (by decide), s2_ne (by decide)]
  · rw [s2_nj (fun _ => by decide), s2_ne (by decide)]
  · rw [s2_nj (fun _ => by decide), s2_ne (by decide)]
  · rw [s2_nj (fun _ => by decide), s2_ne (by decide)]
/-- the last that waits is taken off and written -/
def poA (A : mA) (T n w : Nat) (c : Int32) (op : Nat) : mA := s2 (wrA (s2 A 38 15 (nI n)) T w c) 38 8 (nI op)
theorem poA_mf {A : mA} {T n w op : Nat} {c : Int32} : MF T A (poA A T n w c op) := ((F8.st (X := [15]) (by decide)).mf (by decide) (by decide) (by decide)).tr (wrA_mf.tr ((F8.st (X := [8]) (by decide)).mf (by decide) (by decide) (by decide)))
theorem MS.po {A : mA} {f : Nat → Int32} {z T i : Nat} {W out : List Int32} {c : Int32} (h : MS A f z T i (c :: W) out) : MS (poA A T W.length out.length c (cn W)) f z T i W (out ++ [c]) := by
  obtain ⟨h1, h2, h3, h4, h5, h6, h7, h8⟩ := h
  have k : MS (s2 (s2 A 38 15 (nI W.length)) 38 8 (nI (cn W))) f z T i W out := by
    refine ⟨h1.cg (by rw [s2_ne (by decide), s2_ne (by decide)]) (by rw [s2_nj (fun _ => by decide), s2_nj (fun _ => by decide)]) (by rw [s2_nj (fun _ => by decide), s2_nj (fun _ => by decide)]) (by rw [s2_nj (fun _ => by decide), s2_nj (fun _ => by decide)]) (by rw [s2_nj (fun _ => by decide), s2_nj (fun _ => by decide)]), s2_same, by rw [s2_nj (fun _ => by decide), s2_nj (fun _ => by decide)]; exact h3, by rw [s2_nj (fun _ => by decide), s2_nj (fun _ => by decide)]; exact h4, by rw [s2_nj (fun _ => by decide), s2_same], by rw [s2_ne (by decide), s2_ne (by decide)]; exact h6.2, by rw [s2_ne (by decide), s2_ne (by decide)]; exact h7, by rw [s2_ne (by decide), s2_ne (by decide)]; exact h8⟩
  have k2 := k.wr (x := c)
  have e : wrA (s2 (s2 A 38 15 (nI W.length)) 38 8 (nI (cn W))) T out.length c = poA A T W.length out.length c (cn W) := by
    unfold poA wrA
    funext q j
    by_cases e1 : q = 38
    · subst e1
      by_cases e2 : j = 8
      · subst e2
        exact (show _ = nI (cn W) by rw [s2_nj (k := 38) (j := 12) (fun _ => by decide), s2_ne (k := 42) (by decide), s2_same]).trans s2_same.symm
      · by_cases e3 : j = 12
        · subst e3
          exact s2_same.trans (show _ = nI (out.length + 1) by rw [s2_nj (k := 38) (j := 8) (fun _ => by decide), s2_same]).symm
        · exact (show _ = s2 A 38 15 (nI W.length) 38 j by rw [s2_nj (k := 38) (j := 12) (fun _ => e3), s2_ne (k := 42) (by decide), s2_nj (k := 38) (j := 8) (fun _ => e2)]).trans (show _ = s2 A 38 15 (nI W.length) 38 j by rw [s2_nj (k := 38) (j := 8) (fun _ => e2), s2_nj (k := 38) (j := 12) (fun _ => e3), s2_ne (k := 42) (by decide)]).symm
    · by_cases e2 : q = 42
      · subst e2
        exact (show _ = upd (A 42) (160 * T + out.length) c j by rw [s2_ne (k := 38) (by decide), s2_eq, s2_ne (k := 38) (by decide), s2_ne (k := 38) (by decide)]).trans (show _ = upd (A 42) (160 * T + out.length) c j by rw [s2_ne (k := 38) (by decide), s2_ne (k := 38) (by decide), s2_eq, s2_ne (k := 38) (by decide)]).symm
      · rw [s2_ne e1, s2_ne e2, s2_ne e1, s2_ne e1, s2_ne e1, s2_ne e1, s2_ne e2, s2_ne e1]
  rw [e] at k2
  exact k2
section MPAR
variable {E : mE} {d : Nat} {A : mA} {L : mJ} {Ph : mP} {f : Nat → Int32} {z T i : Nat} {W out : List Int32}
set_option maxRecDepth 100000 in
set_option maxHeartbeats 1000000 in
theorem sp_rank {c : Int32} (h : Ph (some (.int (nI (rkN c)))) A L) : qC E mm_X7_rank d [.int c] A L Ph := by
  unfold rkN at h
  refine qC.enter (by decide) (Nat.le_of_ble_eq_true rfl) ?_
  refine r_iload_n dX7_rank_0 rfl ?_
  refine r_if_ne (tgt := 8) dX7_rank_1 (by decide) (fun b1 => ?_) (fun b1 => ?_)
  · refine r_iload_n dX7_rank_8 rfl ?_
    refine r_bipush (v := (-20)) dX7_rank_9 rfl ?_
    refine r_icmp_ne (tgt := 18) dX7_rank_11 (by decide) (fun b11 => ?_) (fun b11 => ?_)
    · refine r_iload_n dX7_rank_18 rfl ?_
      refine r_bipush (v := (-21)) dX7_rank_19 rfl ?_
      refine r_icmp_ne (tgt := 28) dX7_rank_21 (by decide) (fun b21 => ?_) (fun b21 => ?_)
      · refine r_iload_n dX7_rank_28 rfl ?_
        refine r_bipush (v := (-22)) dX7_rank_29 rfl ?_
        refine r_icmp_ne (tgt := 38) dX7_rank_31 (by decide) (fun b31 => ?_) (fun b31 => ?_)
        · refine r_iload_n dX7_rank_38 rfl ?_
          refine r_bipush (v := (-23)) dX7_rank_39 rfl ?_
          refine r_icmp_eq (tgt := 50) dX7_rank_41 (by decide) (fun b41 => ?_) (fun b41 => ?_)
          · refine r_iconst (v := 4) dX7_rank_50 rfl ?_
            refine r_goto (tgt := 77) dX7_rank_51 (by decide) ?_
            refine r_ireturn dX7_rank_77 rfl rfl ?_
            first | (rw [if_pos b1] at h; exact h) | (rw [if_neg b1, if_pos b11] at h; exact h) | (rw [if_neg b1, if_neg b11, if_pos b21] at h; exact h) | (rw [if_neg b1, if_neg b11, if_neg b21, if_pos b31] at h; exact h) | (rw [if_neg b1, if_neg b11, if_neg b21, if_neg b31, if_pos (Or.inl b41)] at h; exact h) | (rw [if_neg b1, if_neg b11, if_neg b21, if_neg b31, if_pos (Or.inr b47)] at h; exact h) | (rw [if_neg b1, if_neg b11, if_neg b21, if_neg b31, if_neg (nor2 b41 b47), if_pos b57] at h; exact h) | (rw [if_neg b1, if_neg b11, if_neg b21, if_neg b31, if_neg (nor2 b41 b47), if_neg b57, if_pos b68] at h; exact h) | (rw [if_neg b1, if_neg b11, if_neg b21, if_neg b31, if_neg (nor2 b41 b47), if_neg b57, if_neg b68] at h; exact h)
          · refine r_iload_n dX7_rank_44 rfl ?_
            refine r_bipush (v := (-24)) dX7_rank_45 rfl ?_
            refine r_icmp_ne (tgt := 54) dX7_rank_47 (by decide) (fun b47 => ?_) (fun b47 => ?_)
            · refine r_iload_n dX7_rank_54 rfl ?_
              refine r_bipush (v := (-27)) dX7_rank_55 rfl ?_
              refine r_icmp_ne (tgt := 65) dX7_rank_57 (by decide) (fun b57 => ?_) (fun b57 => ?_)
              · refine r_iload_n dX7_rank_65 rfl ?_
                refine r_bipush (v := (-28)) dX7_rank_66 rfl ?_
                refine r_icmp_ne (tgt := 76) dX7_rank_68 (by decide) (fun b68 => ?_) (fun b68 => ?_)
                · refine r_iconst (v := 5) dX7_rank_76 rfl ?_
                  refine r_ireturn dX7_rank_77 rfl rfl ?_
                  first | (rw [if_pos b1] at h; exact h) | (rw [if_neg b1, if_pos b11] at h; exact h) | (rw [if_neg b1, if_neg b11, if_pos b21] at h; exact h) | (rw [if_neg b1, if_neg b11, if_neg b21, if_pos b31] at h; exact h) | (rw [if_neg b1, if_neg b11, if_neg b21, if_neg b31, if_pos (Or.inl b41)] at h; exact h) | (rw [if_neg b1, if_neg b11, if_neg b21, if_neg b31, if_pos (Or.inr b47)] at h; exact h) | (rw [if_neg b1, if_neg b11, if_neg b21, if_neg b31, if_neg (nor2 b41 b47), if_pos b57] at h; exact h) | (rw [if_neg b1, if_neg b11, if_neg b21, if_neg b31, if_neg (nor2 b41 b47), if_neg b57, if_pos b68] at h; exact h) | (rw [if_neg b1, if_neg b11, if_neg b21, if_neg b31, if_neg (nor2 b41 b47), if_neg b57, if_neg b68] at h; exact h)
                · refine r_bipush (v := 7) dX7_rank_71 rfl ?_
                  refine r_goto (tgt := 77) dX7_rank_73 (by decide) ?_
                  refine r_ireturn dX7_rank_77 rfl rfl ?_
                  first | (rw [if_pos b1] at h; exact h) | (rw [if_neg b1, if_pos b11] at h; exact h) | (rw [if_neg b1, if_neg b11, if_pos b21] at h; exact h) | (rw [if_neg b1, if_neg b11, if_neg b21, if_pos b31] at h; exact h) | (rw [if_neg b1, if_neg b11, if_neg b21, if_neg b31, if_pos (Or.inl b41)] at h; exact h) | (rw [if_neg b1, if_neg b11, if_neg b21, if_neg b31, if_pos (Or.inr b47)] at h; exact h) | (rw [if_neg b1, if_neg b11, if_neg b21, if_neg b31, if_neg (nor2 b41 b47), if_pos b57] at h; exact h) | (rw [if_neg b1, if_neg b11, if_neg b21, if_neg b31, if_neg (nor2 b41 b47), if_neg b57, if_pos b68] at h; exact h) | (rw [if_neg b1, if_neg b11, if_neg b21, if_neg b31, if_neg (nor2 b41 b47), if_neg b57, if_neg b68] at h; exact h)
              · refine r_bipush (v := 6) dX7_rank_60 rfl ?_
                refine r_goto (tgt := 77) dX7_rank_62 (by decide) ?_
                refine r_ireturn dX7_rank_77 rfl rfl ?_
                first | (rw [if_pos b1] at h; exact h) | (rw [if_neg b1, if_pos b11] at h; exact h) | (rw [if_neg b1, if_neg b11, if_pos b21] at h; exact h) | (rw [if_neg b1, if_neg b11, if_neg b21, if_pos b31] at h; exact h) | (rw [if_neg b1, if_neg b11, if_neg b21, if_neg b31, if_pos (Or.inl b41)] at h; exact h) | (rw [if_neg b1, if_neg b11, if_neg b21, if_neg b31, if_pos (Or.inr b47)] at h; exact h) | (rw [if_neg b1, if_neg b11, if_neg b21, if_neg b31, if_neg (nor2 b41 b47), if_pos b57] at h; exact h) | (rw [if_neg b1, if_neg b11, if_neg b21, if_neg b31, if_neg (nor2 b41 b47), if_neg b57, if_pos b68] at h; exact h) | (rw [if_neg b1, if_neg b11, if_neg b21, if_neg b31, if_neg (nor2 b41 b47), if_neg b57, if_neg b68] at h; exact h)
            · refine r_iconst (v := 4) dX7_rank_50 rfl ?_
              refine r_goto (tgt := 77) dX7_rank_51 (by decide) ?_
              refine r_ireturn dX7_rank_77 rfl rfl ?_
              first | (rw [if_pos b1] at h; exact h) | (rw [if_neg b1, if_pos b11] at h; exact h) | (rw [if_neg b1, if_neg b11, if_pos b21] at h; exact h) | (rw [if_neg b1, if_neg b11, if_neg b21, if_pos b31] at h; exact h) | (rw [if_neg b1, if_neg b11, if_neg b21, if_neg b31, if_pos (Or.inl b41)] at h; exact h) | (rw [if_neg b1, if_neg b11, if_neg b21, if_neg b31, if_pos (Or.inr b47)] at h; exact h) | (rw [if_neg b1, if_neg b11, if_neg b21, if_neg b31, if_neg (nor2 b41 b47), if_pos b57] at h; exact h) | (rw [if_neg b1, if_neg b11, if_neg b21, if_neg b31, if_neg (nor2 b41 b47), if_neg b57, if_pos b68] at h; exact h) | (rw [if_neg b1, if_neg b11, if_neg b21, if_neg b31, if_neg (nor2 b41 b47), if_neg b57, if_neg b68] at h; exact h)
        · refine r_iconst (v := 3) dX7_rank_34 rfl ?_
          refine r_goto (tgt := 77) dX7_rank_35 (by decide) ?_
          refine r_ireturn dX7_rank_77 rfl rfl ?_
          first | (rw [if_pos b1] at h; exact h) | (rw [if_neg b1, if_pos b11] at h; exact h) | (rw [if_neg b1, if_neg b11, if_pos b21] at h; exact h) | (rw [if_neg b1, if_neg b11, if_neg b21, if_pos b31] at h; exact h) | (rw [if_neg b1, if_neg b11, if_neg b21, if_neg b31, if_pos (Or.inl b41)] at h; exact h) | (rw [if_neg b1, if_neg b11, if_neg b21, if_neg b31, if_pos (Or.inr b47)] at h; exact h) | (rw [if_neg b1, if_neg b11, if_neg b21, if_neg b31, if_neg (nor2 b41 b47), if_pos b57] at h; exact h) | (rw [if_neg b1, if_neg b11, if_neg b21, if_neg b31, if_neg (nor2 b41 b47), if_neg b57, if_pos b68] at h; exact h) | (rw [if_neg b1, if_neg b11, if_neg b21, if_neg b31, if_neg (nor2 b41 b47), if_neg b57, if_neg b68] at h; exact h)
      · refine r_iconst (v := 2) dX7_rank_24 rfl ?_
        refine r_goto (tgt := 77) dX7_rank_25 (by decide) ?_
        refine r_ireturn dX7_rank_77 rfl rfl ?_
        first | (rw [if_pos b1] at h; exact h) | (rw [if_neg b1, if_pos b11] at h; exact h) | (rw [if_neg b1, if_neg b11, if_pos b21] at h; exact h) | (rw [if_neg b1, if_neg b11, if_neg b21, if_pos b31] at h; exact h) | (rw [if_neg b1, if_neg b11, if_neg b21, if_neg b31, if_pos (Or.inl b41)] at h; exact h) | (rw [if_neg b1, if_neg b11, if_neg b21, if_neg b31, if_pos (Or.inr b47)] at h; exact h) | (rw [if_neg b1, if_neg b11, if_neg b21, if_neg b31, if_neg (nor2 b41 b47), if_pos b57] at h; exact h) | (rw [if_neg b1, if_neg b11, if_neg b21, if_neg b31, if_neg (nor2 b41 b47), if_neg b57, if_pos b68] at h; exact h) | (rw [if_neg b1, if_neg b11, if_neg b21, if_neg b31, if_neg (nor2 b41 b47), if_neg b57, if_neg b68] at h; exact h)
    · refine r_iconst (v := 1) dX7_rank_14 rfl ?_
      refine r_goto (tgt := 77) dX7_rank_15 (by decide) ?_
      refine r_ireturn dX7_rank_77 rfl rfl ?_
      first | (rw [if_pos b1] at h; exact h) | (rw [if_neg b1, if_pos b11] at h; exact h) | (rw [if_neg b1, if_neg b11, if_pos b21] at h; exact h) | (rw [if_neg b1, if_neg b11, if_neg b21, if_pos b31] at h; exact h) | (rw [if_neg b1, if_neg b11, if_neg b21, if_neg b31, if_pos (Or.inl b41)] at h; exact h) | (rw [if_neg b1, if_neg b11, if_neg b21, if_neg b31, if_pos (Or.inr b47)] at h; exact h) | (rw [if_neg b1, if_neg b11, if_neg b21, if_neg b31, if_neg (nor2 b41 b47), if_pos b57] at h; exact h) | (rw [if_neg b1, if_neg b11, if_neg b21, if_neg b31, if_neg (nor2 b41 b47), if_neg b57, if_pos b68] at h; exact h) | (rw [if_neg b1, if_neg b11, if_neg b21, if_neg b31, if_neg (nor2 b41 b47), if_neg b57, if_neg b68] at h; exact h)
  · refine r_iconst (v := 0) dX7_rank_4 rfl ?_
    refine r_goto (tgt := 77) dX7_rank_5 (by decide) ?_
    refine r_ireturn dX7_rank_77 rfl rfl ?_
    first | (rw [if_pos b1] at h; exact h) | (rw [if_neg b1, if_pos b11] at h; exact h) | (rw [if_neg b1, if_neg b11, if_pos b21] at h; exact h) | (rw [if_neg b1, if_neg b11, if_neg b21, if_pos b31] at h; exact h) | (rw [if_neg b1, if_neg b11, if_neg b21, if_neg b31, if_pos (Or.inl b41)] at h; exact h) | (rw [if_neg b1, if_neg b11, if_neg b21, if_neg b31, if_pos (Or.inr b47)] at h; exact h) | (rw [if_neg b1, if_neg b11, if_neg b21, if_neg b31, if_neg (nor2 b41 b47), if_pos b57] at h; exact h) | (rw [if_neg b1, if_neg b11, if_neg b21, if_neg b31, if_neg (nor2 b41 b47), if_neg b57, if_pos b68] at h; exact h) | (rw [if_neg b1, if_neg b11, if_neg b21, if_neg b31, if_neg (nor2 b41 b47), if_neg b57, if_neg b68] at h; exact h)
set_option maxRecDepth 100000 in
set_option maxHeartbeats 1000000 in
theorem sp_last (hE : hM E) (hl : W.length ≤ 160) (h15 : A 38 15 = nI W.length) (hk : sk (A 45) W) (h : Ph (some (.int (nI (la W)))) A L) : qC E mm_X7_last (d + 1) [.ref 38] A L Ph := by
  cases W with
  | nil =>
    refine qC.enter (by decide) (Nat.le_of_ble_eq_true rfl) ?_
    refine r_aload_n dX7_last_0 rfl ?_
    refine r_getI dX7_last_1 fl_X7_137 (ly_38 hE) rfl ?_
    refine r_rw (y := 0) h15 ?_
    refine r_if_ne (tgt := 11) dX7_last_4 (by decide) (fun hqz => absurd (by decide) hqz) (fun _ => ?_)
    refine r_iconst (v := 0) dX7_last_7 rfl ?_
    refine r_goto (tgt := 25) dX7_last_8 (by decide) ?_
    refine r_ireturn dX7_last_25 rfl rfl ?_
    exact h
  | cons c W =>
    rw [List.length_cons] at hl h15
    refine qC.enter (by decide) (Nat.le_of_ble_eq_true rfl) ?_
    refine r_aload_n dX7_last_0 rfl ?_
    refine r_getI dX7_last_1 fl_X7_137 (ly_38 hE) rfl ?_
    refine r_rw (y := nI (W.length + 1)) h15 ?_
    refine r_if_ne (tgt := 11) dX7_last_4 (by decide) (fun _ => ?_) (fun hqz => absurd hqz (fun y => by have := nI_z (by omega) y; omega))
    refine r_aload_n dX7_last_11 rfl ?_
    refine r_getR dX7_last_12 fl_X7_37 (ly_38 hE) rfl ?_
    refine r_aload_n dX7_last_15 rfl ?_
    refine r_getI dX7_last_16 fl_X7_137 (ly_38 hE) rfl ?_
    refine r_rw (y := nI (W.length + 1)) h15 ?_
    refine r_iconst (v := 1) dX7_last_19 rfl ?_
    refine r_isub dX7_last_20 ?_
    refine r_rw (y := nI W.length) (show nI (W.length + 1) - nI 1 = _ by rw [pk_sub (by omega)]; rfl) ?_
    refine r_ialdN dX7_last_21 (ly_45 hE) (by omega) (by decide) ?_
    refine r_rw (y := c) hk.1 ?_
    refine r_callS1 dX7_last_22 lk_X7_140 (Nat.le_of_ble_eq_true rfl) (sp_rank ?_)
    refine r_ireturn dX7_last_25 rfl rfl ?_
    exact h
set_option maxRecDepth 100000 in
set_option maxHeartbeats 1000000 in
theorem sp_write (hE : hM E) (hT : T < 6) {n : Nat} {x : Int32} (hw : n < 160) (h11 : A 38 11 = nI T) (h12 : A 38 12 = nI n) (h : Ph none (wrA A T n x) L) : qC E mm_X7_write d [.ref 38, .int x] A L Ph := by
  refine qC.enter (by decide) (Nat.le_of_ble_eq_true rfl) ?_
  refine r_aload_n dX7_write_0 rfl ?_
  refine r_getR dX7_write_1 fl_X7_19 (ly_38 hE) rfl ?_
  refine r_sipush (v := 160) dX7_write_4 rfl ?_
  refine r_aload_n dX7_write_7 rfl ?_
  refine r_getI dX7_write_8 fl_X7_29 (ly_38 hE) rfl ?_
  refine r_rw (y := nI T) h11 ?_
  refine r_imul dX7_write_11 ?_
  refine r_aload_n dX7_write_12 rfl ?_
  refine r_getI dX7_write_13 fl_X7_134 (ly_38 hE) rfl ?_
  refine r_rw (y := nI n) h12 ?_
  refine r_iadd dX7_write_16 ?_
  refine r_rw (y := nI (160 * T + n)) (show nI 160 * nI T + nI n = _ by rw [pk_mul, nI_add]) ?_
  refine r_iload_n dX7_write_17 rfl ?_
  refine r_iastN dX7_write_18 (ly_42 hE) (by omega) (by decide) ?_
  refine r_aload_n dX7_write_19 rfl ?_
  refine r_dup dX7_write_20 rfl ?_
  refine r_getI dX7_write_21 fl_X7_134 (ly_38 hE) rfl ?_
  refine r_rw (y := nI n) (by rw [s2_ne (by decide)]; exact h12) ?_
  refine r_iconst (v := 1) dX7_write_24 rfl ?_
  refine r_iadd dX7_write_25 ?_
  refine r_rw (y := nI (n + 1)) (nI_1 n) ?_
  refine r_putI dX7_write_26 fl_X7_134 fp_7_12 (ly_38 hE) rfl rfl rfl ?_
  refine r_return dX7_write_29 rfl ?_
  exact h
set_option maxRecDepth 100000 in
set_option maxHeartbeats 1000000 in
theorem sp_await (hE : hM E) {n : Nat} {x : Int32} (hn : n < 160) (h15 : A 38 15 = nI n) (h : Ph none (awA A n x) L) : qC E mm_X7_await d [.ref 38, .int x] A L Ph := by
  refine qC.enter (by decide) (Nat.le_of_ble_eq_true rfl) ?_
  refine r_aload_n dX7_await_0 rfl ?_
  refine r_getR dX7_await_1 fl_X7_37 (ly_38 hE) rfl ?_
  refine r_aload_n dX7_await_4 rfl ?_
  refine r_getI dX7_await_5 fl_X7_137 (ly_38 hE) rfl ?_
  refine r_rw (y := nI n) h15 ?_
  refine r_iload_n dX7_await_8 rfl ?_
  refine r_iastN dX7_await_9 (ly_45 hE) (by omega) (by decide) ?_
  refine r_aload_n dX7_await_10 rfl ?_
  refine r_dup dX7_await_11 rfl ?_
  refine r_getI dX7_await_12 fl_X7_137 (ly_38 hE) rfl ?_
  refine r_rw (y := nI n) (by rw [s2_ne (by decide)]; exact h15) ?_
  refine r_iconst (v := 1) dX7_await_15 rfl ?_
  refine r_iadd dX7_await_16 ?_
  refine r_rw (y := nI (n + 1)) (nI_1 n) ?_
  refine r_putI dX7_await_17 fl_X7_137 fp_7_15 (ly_38 hE) rfl rfl rfl ?_
  refine r_return dX7_await_20 rfl ?_
  exact h
set_option maxRecDepth 100000 in
set_option maxHeartbeats 1000000 in
theorem st_loop (hE : hM E) (hT : T < 6) {r : Nat} (hr : r ≤ 7) : ∀ (W out : List Int32) (A : mA), W.length + out.length ≤ 160 → MS A f z T i W out → (∀ A', MF T A A' → MS A' f z T i (seF r W out).1 (seF r W out).2 → Ph none A' L) → qG E mm_X7_settle (d + 2) 0 [(0, .ref 38), (1, .int (nI r))] [] A L Ph := by
  intro W
  induction W with
  | nil =>
    intro out A hl hs h
    refine r_aload_n dX7_settle_0 rfl ?_
    refine r_callV0 dX7_settle_1 lk_X7_143 (ly_38 hE) rfl (Nat.le_of_ble_eq_true rfl) (sp_last (W := []) hE (by decide) hs.2.2.2.2.1 hs.2.2.2.2.2.1 ?_)
    refine r_if_le (tgt := 83) dX7_settle_4 (by decide) (fun _ => ?_) (fun hqz => absurd (by decide) hqz)
    refine r_return dX7_settle_83 rfl ?_
    exact h A MF.rf hs
  | cons c W ih =>
    intro out A hl hs h
    rw [List.length_cons] at hl
    have hc7 := rkN_le c
    by_cases h0 : rkN c = 0
    · rw [seF, if_neg (fun y => by omega)] at h
      refine r_aload_n dX7_settle_0 rfl ?_
      refine r_callV0 dX7_settle_1 lk_X7_143 (ly_38 hE) rfl (Nat.le_of_ble_eq_true rfl) (sp_last (W := c :: W) hE (by rw [List.length_cons]; omega) hs.2.2.2.2.1 hs.2.2.2.2.2.1 ?_)
      refine r_rw (y := 0) (by show nI (rkN c) = 0; rw [h0]; rfl) ?_
      refine r_if_le (tgt := 83) dX7_settle_4 (by decide) (fun _ => ?_) (fun hqz => absurd (by decide) hqz)
      refine r_return dX7_settle_83 rfl ?_
      exact h A MF.rf hs
    · by_cases h1 : r ≤ rkN c
      · rw [seF, if_pos ⟨by omega, h1⟩] at h
        have h15 := hs.2.2.2.2.1
        have hsk := hs.2.2.2.2.2.1
        have hop := hs.2.1
        rw [List.length_cons] at h15
        have hpo := hs.po
        have hne : ¬ c = 0 := fun y => h0 (by rw [y]; rfl)
        have ecn : cn (c :: W) = cn W + (if c = -22 ∨ c = -28 then 1 else 0) := by
          rw [cn]
          congr 1
          by_cases y : c = -22 ∨ c = -28
          · rw [if_pos y, if_pos (Or.inr y)]
          · rw [if_neg y, if_neg (nor2 hne y)]
        refine r_aload_n dX7_settle_0 rfl ?_
        refine r_callV0 dX7_settle_1 lk_X7_143 (ly_38 hE) rfl (Nat.le_of_ble_eq_true rfl) (sp_last (W := c :: W) hE (by rw [List.length_cons]; omega) hs.2.2.2.2.1 hs.2.2.2.2.2.1 ?_)
        refine r_rw (y := nI (rkN c)) rfl ?_
        refine r_if_le (tgt := 83) dX7_settle_4 (by decide) (fun hqz => absurd hqz (nI_ge (a := 0) (b := rkN c) (by omega) (by omega))) (fun _ => ?_)
        refine r_aload_n dX7_settle_7 rfl ?_
        refine r_callV0 dX7_settle_8 lk_X7_143 (ly_38 hE) rfl (Nat.le_of_ble_eq_true rfl) (sp_last (W := c :: W) hE (by rw [List.length_cons]; omega) hs.2.2.2.2.1 hs.2.2.2.2.2.1 ?_)
        refine r_rw (y := nI (rkN c)) rfl ?_
        refine r_iload_n dX7_settle_11 rfl ?_
        refine r_icmp_lt (tgt := 83) dX7_settle_12 (by decide) (fun hqz => absurd hqz (i_nle (nI_le h1 (by omega)))) (fun _ => ?_)
        refine r_aload_n dX7_settle_15 rfl ?_
        refine r_dup dX7_settle_16 rfl ?_
        refine r_getI dX7_settle_17 fl_X7_137 (ly_38 hE) rfl ?_
        refine r_rw (y := nI (W.length + 1)) h15 ?_
        refine r_iconst (v := 1) dX7_settle_20 rfl ?_
        refine r_isub dX7_settle_21 ?_
        refine r_rw (y := nI W.length) (show nI (W.length + 1) - nI 1 = _ by rw [pk_sub (by omega)]; rfl) ?_
        refine r_putI dX7_settle_22 fl_X7_137 fp_7_15 (ly_38 hE) rfl rfl rfl ?_
        refine r_aload_n dX7_settle_25 rfl ?_
        refine r_aload_n dX7_settle_26 rfl ?_
        refine r_getR dX7_settle_27 fl_X7_37 (ly_38 hE) rfl ?_
        refine r_aload_n dX7_settle_30 rfl ?_
        refine r_getI dX7_settle_31 fl_X7_137 (ly_38 hE) rfl ?_
        refine r_rw (y := nI W.length) (s2_same) ?_
        refine r_ialdN dX7_settle_34 (ly_45 hE) (by omega) (by decide) ?_
        refine r_rw (y := c) (by rw [s2_ne (by decide)]; exact hsk.1) ?_
        refine r_callV1 dX7_settle_35 lk_X7_146 (ly_38 hE) rfl (Nat.le_of_ble_eq_true rfl) (sp_write hE hT (show out.length < 160 by omega) (by rw [s2_nj (fun _ => by decide)]; exact hs.2.2.1) (by rw [s2_nj (fun _ => by decide)]; exact hs.2.2.2.1) ?_)
        refine r_aload_n dX7_settle_38 rfl ?_
        refine r_dup dX7_settle_39 rfl ?_
        refine r_getI dX7_settle_40 fl_X7_149 (ly_38 hE) rfl ?_
        refine r_rw (y := nI (cn (c :: W))) (by rw [wrA_38 (by decide), s2_nj (fun _ => by decide)]; exact hop) ?_
        refine r_aload_n dX7_settle_43 rfl ?_
        refine r_getR dX7_settle_44 fl_X7_37 (ly_38 hE) rfl ?_
        refine r_aload_n dX7_settle_47 rfl ?_
        refine r_getI dX7_settle_48 fl_X7_137 (ly_38 hE) rfl ?_
        refine r_rw (y := nI W.length) (by rw [wrA_38 (by decide), s2_same]) ?_
        refine r_ialdN dX7_settle_51 (ly_45 hE) (by omega) (by decide) ?_
        refine r_rw (y := c) (by rw [wrA_k (by decide) (by decide), s2_ne (by decide)]; exact hsk.1) ?_
        refine r_bipush (v := (-22)) dX7_settle_52 rfl ?_
        refine r_icmp_eq (tgt := 71) dX7_settle_54 (by decide) (fun b54 => ?_) (fun b54 => ?_)
        · refine r_iconst (v := 1) dX7_settle_71 rfl ?_
          refine r_goto (tgt := 76) dX7_settle_72 (by decide) ?_
          refine r_isub dX7_settle_76 ?_
          first | refine r_rw (y := nI (cn W)) (show nI (cn (c :: W)) - nI 1 = _ by rw [ecn, if_pos (Or.inl b54), pk_sub (by omega)]; rfl) ?_ | refine r_rw (y := nI (cn W)) (show nI (cn (c :: W)) - nI 1 = _ by rw [ecn, if_pos (Or.inr b68), pk_sub (by omega)]; rfl) ?_ | refine r_rw (y := nI (cn W)) (show nI (cn (c :: W)) - nI 0 = _ by rw [ecn, if_neg (nor2 b54 b68), pk_sub (by omega)]; rfl) ?_
          refine r_putI dX7_settle_77 fl_X7_149 fp_7_8 (ly_38 hE) rfl rfl rfl ?_
          refine r_goto (tgt := 0) dX7_settle_80 (by decide) ?_
          refine qG.pick [0, 1] rfl ?_
          exact ih (out ++ [c]) _ (by rw [List.length_append, List.length_singleton]; omega) hpo (fun A' fa ca => h A' (poA_mf.tr fa) ca)
        · refine r_aload_n dX7_settle_57 rfl ?_
          refine r_getR dX7_settle_58 fl_X7_37 (ly_38 hE) rfl ?_
          refine r_aload_n dX7_settle_61 rfl ?_
          refine r_getI dX7_settle_62 fl_X7_137 (ly_38 hE) rfl ?_
          refine r_rw (y := nI W.length) (by rw [wrA_38 (by decide), s2_same]) ?_
          refine r_ialdN dX7_settle_65 (ly_45 hE) (by omega) (by decide) ?_
          refine r_rw (y := c) (by rw [wrA_k (by decide) (by decide), s2_ne (by decide)]; exact hsk.1) ?_
          refine r_bipush (v := (-28)) dX7_settle_66 rfl ?_
          refine r_icmp_ne (tgt := 75) dX7_settle_68 (by decide) (fun b68 => ?_) (fun b68 => ?_)
          · refine r_iconst (v := 0) dX7_settle_75 rfl ?_
            refine r_isub dX7_settle_76 ?_
            first | refine r_rw (y := nI (cn W)) (show nI (cn (c :: W)) - nI 1 = _ by rw [ecn, if_pos (Or.inl b54), pk_sub (by omega)]; rfl) ?_ | refine r_rw (y := nI (cn W)) (show nI (cn (c :: W)) - nI 1 = _ by rw [ecn, if_pos (Or.inr b68), pk_sub (by omega)]; rfl) ?_ | refine r_rw (y := nI (cn W)) (show nI (cn (c :: W)) - nI 0 = _ by rw [ecn, if_neg (nor2 b54 b68), pk_sub (by omega)]; rfl) ?_
            refine r_putI dX7_settle_77 fl_X7_149 fp_7_8 (ly_38 hE) rfl rfl rfl ?_
            refine r_goto (tgt := 0) dX7_settle_80 (by decide) ?_
            refine qG.pick [0, 1] rfl ?_
            exact ih (out ++ [c]) _ (by rw [List.length_append, List.length_singleton]; omega) hpo (fun A' fa ca => h A' (poA_mf.tr fa) ca)
          · refine r_iconst (v := 1) dX7_settle_71 rfl ?_
            refine r_goto (tgt := 76) dX7_settle_72 (by decide) ?_
            refine r_isub dX7_settle_76 ?_
            first | refine r_rw (y := nI (cn W)) (show nI (cn (c :: W)) - nI 1 = _ by rw [ecn, if_pos (Or.inl b54), pk_sub (by omega)]; rfl) ?_ | refine r_rw (y := nI (cn W)) (show nI (cn (c :: W)) - nI 1 = _ by rw [ecn, if_pos (Or.inr b68), pk_sub (by omega)]; rfl) ?_ | refine r_rw (y := nI (cn W)) (show nI (cn (c :: W)) - nI 0 = _ by rw [ecn, if_neg (nor2 b54 b68), pk_sub (by omega)]; rfl) ?_
            refine r_putI dX7_settle_77 fl_X7_149 fp_7_8 (ly_38 hE) rfl rfl rfl ?_
            refine r_goto (tgt := 0) dX7_settle_80 (by decide) ?_
            refine qG.pick [0, 1] rfl ?_
            exact ih (out ++ [c]) _ (by rw [List.length_append, List.length_singleton]; omega) hpo (fun A' fa ca => h A' (poA_mf.tr fa) ca)
      · rw [seF, if_neg (fun y => h1 y.2)] at h
        refine r_aload_n dX7_settle_0 rfl ?_
        refine r_callV0 dX7_settle_1 lk_X7_143 (ly_38 hE) rfl (Nat.le_of_ble_eq_true rfl) (sp_last (W := c :: W) hE (by rw [List.length_cons]; omega) hs.2.2.2.2.1 hs.2.2.2.2.2.1 ?_)
        refine r_rw (y := nI (rkN c)) rfl ?_
        refine r_if_le (tgt := 83) dX7_settle_4 (by decide) (fun hqz => absurd hqz (nI_ge (a := 0) (b := rkN c) (by omega) (by omega))) (fun _ => ?_)
        refine r_aload_n dX7_settle_7 rfl ?_
        refine r_callV0 dX7_settle_8 lk_X7_143 (ly_38 hE) rfl (Nat.le_of_ble_eq_true rfl) (sp_last (W := c :: W) hE (by rw [List.length_cons]; omega) hs.2.2.2.2.1 hs.2.2.2.2.2.1 ?_)
        refine r_rw (y := nI (rkN c)) rfl ?_
        refine r_iload_n dX7_settle_11 rfl ?_
        refine r_icmp_lt (tgt := 83) dX7_settle_12 (by decide) (fun _ => ?_) (fun hqz => absurd (nI_lt (show rkN c < r by omega) (by omega)) hqz)
        refine r_return dX7_settle_83 rfl ?_
        exact h A MF.rf hs
set_option maxRecDepth 100000 in
set_option maxHeartbeats 1000000 in
theorem sp_settle (hE : hM E) (hT : T < 6) {r : Nat} (hr : r ≤ 7) (hl : W.length + out.length ≤ 160) (hs : MS A f z T i W out) (h : ∀ A', MF T A A' → MS A' f z T i (seF r W out).1 (seF r W out).2 → Ph none A' L) : qC E mm_X7_settle (d + 2) [.ref 38, .int (nI r)] A L Ph := by
  refine qC.enter (by decide) (Nat.le_of_ble_eq_true rfl) ?_
  exact st_loop hE hT hr W out A hl hs h
set_option maxRecDepth 100000 in
set_option maxHeartbeats 1000000 in
theorem sp_between (hE : hM E) (hz : z ≤ 160) (hf : ∀ j, j < z → ∃ b, b < 256 ∧ f j = nI b) (hs : MS A f z T i W out) (h : Ph (some (.int (btw (tk f z i)))) A L) : qC E mm_X7_between (d + 1) [.ref 38] A L Ph := by
  have hn := hs.2.2.2.2.2.2.2
  rcases wv_tk (i := i) hf with ⟨k, hk, ek, ew⟩ | ⟨ew, ek⟩
  · by_cases k9 : k = 9
    · subst k9
      rw [ek] at h
      refine qC.enter (by decide) (Nat.le_of_ble_eq_true rfl) ?_
      refine r_aload_n dX7_between_0 rfl ?_
      refine r_callV0 dX7_between_1 lk_X7_152 (ly_38 hE) rfl (Nat.le_of_ble_eq_true rfl) (sp_word hE hz hs.1 hn ?_)
      refine r_rw (y := 9) ew ?_
      refine r_istore_n (loc' := [(1, .int 9), (0, .ref 38)]) dX7_between_4 (by decide) rfl ?_
      refine r_iload_n dX7_between_5 rfl ?_
      refine r_bipush (v := 9) dX7_between_6 rfl ?_
      refine r_icmp_ne (tgt := 16) dX7_between_8 (by decide) (fun hqz => absurd (by decide) hqz) (fun _ => ?_)
      refine r_bipush (v := (-20)) dX7_between_11 rfl ?_
      refine r_goto (tgt := 98) dX7_between_13 (by decide) ?_
      refine r_ireturn dX7_between_98 rfl rfl ?_
      exact h
    · by_cases k10 : k = 10
      · subst k10
        rw [ek] at h
        refine qC.enter (by decide) (Nat.le_of_ble_eq_true rfl) ?_
        refine r_aload_n dX7_between_0 rfl ?_
        refine r_callV0 dX7_between_1 lk_X7_152 (ly_38 hE) rfl (Nat.le_of_ble_eq_true rfl) (sp_word hE hz hs.1 hn ?_)
        refine r_rw (y := 10) ew ?_
        refine r_istore_n (loc' := [(1, .int 10), (0, .ref 38)]) dX7_between_4 (by decide) rfl ?_
        refine r_iload_n dX7_between_5 rfl ?_
        refine r_bipush (v := 9) dX7_between_6 rfl ?_
        refine r_icmp_ne (tgt := 16) dX7_between_8 (by decide) (fun _ => ?_) (fun hqz => absurd hqz (by decide))
        refine r_iload_n dX7_between_16 rfl ?_
        refine r_bipush (v := 10) dX7_between_17 rfl ?_
        refine r_icmp_ne (tgt := 27) dX7_between_19 (by decide) (fun hqz => absurd (by decide) hqz) (fun _ => ?_)
        refine r_bipush (v := (-21)) dX7_between_22 rfl ?_
        refine r_goto (tgt := 98) dX7_between_24 (by decide) ?_
        refine r_ireturn dX7_between_98 rfl rfl ?_
        exact h
      · have hb : btw (tk f z i) = 0 := by
          rw [ek]
          have ne : ∀ m, m < 2 ^ 31 → k ≠ m → ¬ nI k = nI m := fun m hm hkm y => hkm ((nI_eq (by omega) hm).mp y)
          unfold btw
          rw [if_neg (show ¬ nI k = 9 from ne 9 (by decide) k9), if_neg (show ¬ nI k = 10 from ne 10 (by decide) k10), if_neg (show ¬ nI k = 60 from ne 60 (by decide) (by omega)), if_neg (show ¬ nI k = 61 from ne 61 (by decide) (by omega)), if_neg (show ¬ nI k = 43 from ne 43 (by decide) (by omega)), if_neg (show ¬ nI k = 45 from ne 45 (by decide) (by omega)), if_neg (show ¬ nI k = 42 from ne 42 (by decide) (by omega))]
        rw [hb] at h
        refine qC.enter (by decide) (Nat.le_of_ble_eq_true rfl) ?_
        refine r_aload_n dX7_between_0 rfl ?_
        refine r_callV0 dX7_between_1 lk_X7_152 (ly_38 hE) rfl (Nat.le_of_ble_eq_true rfl) (sp_word hE hz hs.1 hn ?_)
        refine r_rw (y := nI k) ew ?_
        refine r_istore_n (loc' := [(1, .int (nI k)), (0, .ref 38)]) dX7_between_4 (by decide) rfl ?_
        refine r_iload_n dX7_between_5 rfl ?_
        refine r_bipush (v := 9) dX7_between_6 rfl ?_
        refine r_icmp_ne (tgt := 16) dX7_between_8 (by decide) (fun _ => ?_) (fun hqz => absurd hqz (fun y => k9 ((nI_eq (b := 9) (by omega) (by decide)).mp y)))
        refine r_iload_n dX7_between_16 rfl ?_
        refine r_bipush (v := 10) dX7_between_17 rfl ?_
        refine r_icmp_ne (tgt := 27) dX7_between_19 (by decide) (fun _ => ?_) (fun hqz => absurd hqz (fun y => k10 ((nI_eq (b := 10) (by omega) (by decide)).mp y)))
        refine r_aload_n dX7_between_27 rfl ?_
        refine r_bipush (v := 60) dX7_between_28 rfl ?_
        refine r_callV1 dX7_between_30 lk_X7_155 (ly_38 hE) rfl (Nat.le_of_ble_eq_true rfl) (sp_isSign hE hz hf (b := 60) (by decide) rfl hs.1 (fun y => absurd ((nI_eq (a := k) (b := 60) (by omega) (by decide)).mp (ek.symm.trans y)) (by omega)) (fun _ => ?_))
        refine r_if_eq (tgt := 41) dX7_between_33 (by decide) (fun _ => ?_) (fun hqz => absurd (by decide) hqz)
        refine r_aload_n dX7_between_41 rfl ?_
        refine r_bipush (v := 61) dX7_between_42 rfl ?_
        refine r_callV1 dX7_between_44 lk_X7_155 (ly_38 hE) rfl (Nat.le_of_ble_eq_true rfl) (sp_isSign hE hz hf (b := 61) (by decide) rfl hs.1 (fun y => absurd ((nI_eq (a := k) (b := 61) (by omega) (by decide)).mp (ek.symm.trans y)) (by omega)) (fun _ => ?_))
        refine r_if_eq (tgt := 55) dX7_between_47 (by decide) (fun _ => ?_) (fun hqz => absurd (by decide) hqz)
        refine r_aload_n dX7_between_55 rfl ?_
        refine r_bipush (v := 43) dX7_between_56 rfl ?_
        refine r_callV1 dX7_between_58 lk_X7_155 (ly_38 hE) rfl (Nat.le_of_ble_eq_true rfl) (sp_isSign hE hz hf (b := 43) (by decide) rfl hs.1 (fun y => absurd ((nI_eq (a := k) (b := 43) (by omega) (by decide)).mp (ek.symm.trans y)) (by omega)) (fun _ => ?_))
        refine r_if_eq (tgt := 69) dX7_between_61 (by decide) (fun _ => ?_) (fun hqz => absurd (by decide) hqz)
        refine r_aload_n dX7_between_69 rfl ?_
        refine r_bipush (v := 45) dX7_between_70 rfl ?_
        refine r_callV1 dX7_between_72 lk_X7_155 (ly_38 hE) rfl (Nat.le_of_ble_eq_true rfl) (sp_isSign hE hz hf (b := 45) (by decide) rfl hs.1 (fun y => absurd ((nI_eq (a := k) (b := 45) (by omega) (by decide)).mp (ek.symm.trans y)) (by omega)) (fun _ => ?_))
        refine r_if_eq (tgt := 83) dX7_between_75 (by decide) (fun _ => ?_) (fun hqz => absurd (by decide) hqz)
        refine r_aload_n dX7_between_83 rfl ?_
        refine r_bipush (v := 42) dX7_between_84 rfl ?_
        refine r_callV1 dX7_between_86 lk_X7_155 (ly_38 hE) rfl (Nat.le_of_ble_eq_true rfl) (sp_isSign hE hz hf (b := 42) (by decide) rfl hs.1 (fun y => absurd ((nI_eq (a := k) (b := 42) (by omega) (by decide)).mp (ek.symm.trans y)) (by omega)) (fun _ => ?_))
        refine r_if_eq (tgt := 97) dX7_between_89 (by decide) (fun _ => ?_) (fun hqz => absurd (by decide) hqz)
        refine r_iconst (v := 0) dX7_between_97 rfl ?_
        refine r_ireturn dX7_between_98 rfl rfl ?_
        exact h
  · have t9 : ¬ tk f z i = 9 := ek 9 (by decide)
    have t10 : ¬ tk f z i = 10 := ek 10 (by decide)
    unfold btw at h
    rw [if_neg t9, if_neg t10] at h
    refine qC.enter (by decide) (Nat.le_of_ble_eq_true rfl) ?_
    refine r_aload_n dX7_between_0 rfl ?_
    refine r_callV0 dX7_between_1 lk_X7_152 (ly_38 hE) rfl (Nat.le_of_ble_eq_true rfl) (sp_word hE hz hs.1 hn ?_)
    refine r_rw (y := -1) ew ?_
    refine r_istore_n (loc' := [(1, .int (-1)), (0, .ref 38)]) dX7_between_4 (by decide) rfl ?_
    refine r_iload_n dX7_between_5 rfl ?_
    refine r_bipush (v := 9) dX7_between_6 rfl ?_
    refine r_icmp_ne (tgt := 16) dX7_between_8 (by decide) (fun _ => ?_) (fun hqz => absurd hqz (by decide))
    refine r_iload_n dX7_between_16 rfl ?_
    refine r_bipush (v := 10) dX7_between_17 rfl ?_
    refine r_icmp_ne (tgt := 27) dX7_between_19 (by decide) (fun _ => ?_) (fun hqz => absurd hqz (by decide))
    refine r_aload_n dX7_between_27 rfl ?_
    refine r_bipush (v := 60) dX7_between_28 rfl ?_
    refine r_callV1 dX7_between_30 lk_X7_155 (ly_38 hE) rfl (Nat.le_of_ble_eq_true rfl) (sp_isSign hE hz hf (b := 60) (by decide) rfl hs.1 (fun (q60 : tk f z i = 60) => ?_) (fun (q60 : ¬ tk f z i = 60) => ?_))
    · refine r_if_eq (tgt := 41) dX7_between_33 (by decide) (fun hqz => absurd hqz (by decide)) (fun _ => ?_)
      refine r_bipush (v := (-23)) dX7_between_36 rfl ?_
      refine r_goto (tgt := 98) dX7_between_38 (by decide) ?_
      refine r_ireturn dX7_between_98 rfl rfl ?_
      first | (rw [if_pos q60] at h; exact h) | (rw [if_neg q60, if_pos q61] at h; exact h) | (rw [if_neg q60, if_neg q61, if_pos q43] at h; exact h) | (rw [if_neg q60, if_neg q61, if_neg q43, if_pos q45] at h; exact h) | (rw [if_neg q60, if_neg q61, if_neg q43, if_neg q45, if_pos q42] at h; exact h) | (rw [if_neg q60, if_neg q61, if_neg q43, if_neg q45, if_neg q42] at h; exact h)
    · refine r_if_eq (tgt := 41) dX7_between_33 (by decide) (fun _ => ?_) (fun hqz => absurd (by decide) hqz)
      refine r_aload_n dX7_between_41 rfl ?_
      refine r_bipush (v := 61) dX7_between_42 rfl ?_
      refine r_callV1 dX7_between_44 lk_X7_155 (ly_38 hE) rfl (Nat.le_of_ble_eq_true rfl) (sp_isSign hE hz hf (b := 61) (by decide) rfl hs.1 (fun (q61 : tk f z i = 61) => ?_) (fun (q61 : ¬ tk f z i = 61) => ?_))
      · refine r_if_eq (tgt := 55) dX7_between_47 (by decide) (fun hqz => absurd hqz (by decide)) (fun _ => ?_)
        refine r_bipush (v := (-24)) dX7_between_50 rfl ?_
        refine r_goto (tgt := 98) dX7_between_52 (by decide) ?_
        refine r_ireturn dX7_between_98 rfl rfl ?_
        first | (rw [if_pos q60] at h; exact h) | (rw [if_neg q60, if_pos q61] at h; exact h) | (rw [if_neg q60, if_neg q61, if_pos q43] at h; exact h) | (rw [if_neg q60, if_neg q61, if_neg q43, if_pos q45] at h; exact h) | (rw [if_neg q60, if_neg q61, if_neg q43, if_neg q45, if_pos q42] at h; exact h) | (rw [if_neg q60, if_neg q61, if_neg q43, if_neg q45, if_neg q42] at h; exact h)
      · refine r_if_eq (tgt := 55) dX7_between_47 (by decide) (fun _ => ?_) (fun hqz => absurd (by decide) hqz)
        refine r_aload_n dX7_between_55 rfl ?_
        refine r_bipush (v := 43) dX7_between_56 rfl ?_
        refine r_callV1 dX7_between_58 lk_X7_155 (ly_38 hE) rfl (Nat.le_of_ble_eq_true rfl) (sp_isSign hE hz hf (b := 43) (by decide) rfl hs.1 (fun (q43 : tk f z i = 43) => ?_) (fun (q43 : ¬ tk f z i = 43) => ?_))
        · refine r_if_eq (tgt := 69) dX7_between_61 (by decide) (fun hqz => absurd hqz (by decide)) (fun _ => ?_)
          refine r_bipush (v := (-25)) dX7_between_64 rfl ?_
          refine r_goto (tgt := 98) dX7_between_66 (by decide) ?_
          refine r_ireturn dX7_between_98 rfl rfl ?_
          first | (rw [if_pos q60] at h; exact h) | (rw [if_neg q60, if_pos q61] at h; exact h) | (rw [if_neg q60, if_neg q61, if_pos q43] at h; exact h) | (rw [if_neg q60, if_neg q61, if_neg q43, if_pos q45] at h; exact h) | (rw [if_neg q60, if_neg q61, if_neg q43, if_neg q45, if_pos q42] at h; exact h) | (rw [if_neg q60, if_neg q61, if_neg q43, if_neg q45, if_neg q42] at h; exact h)
        · refine r_if_eq (tgt := 69) dX7_between_61 (by decide) (fun _ => ?_) (fun hqz => absurd (by decide) hqz)
          refine r_aload_n dX7_between_69 rfl ?_
          refine r_bipush (v := 45) dX7_between_70 rfl ?_
          refine r_callV1 dX7_between_72 lk_X7_155 (ly_38 hE) rfl (Nat.le_of_ble_eq_true rfl) (sp_isSign hE hz hf (b := 45) (by decide) rfl hs.1 (fun (q45 : tk f z i = 45) => ?_) (fun (q45 : ¬ tk f z i = 45) => ?_))
          · refine r_if_eq (tgt := 83) dX7_between_75 (by decide) (fun hqz => absurd hqz (by decide)) (fun _ => ?_)
            refine r_bipush (v := (-26)) dX7_between_78 rfl ?_
            refine r_goto (tgt := 98) dX7_between_80 (by decide) ?_
            refine r_ireturn dX7_between_98 rfl rfl ?_
            first | (rw [if_pos q60] at h; exact h) | (rw [if_neg q60, if_pos q61] at h; exact h) | (rw [if_neg q60, if_neg q61, if_pos q43] at h; exact h) | (rw [if_neg q60, if_neg q61, if_neg q43, if_pos q45] at h; exact h) | (rw [if_neg q60, if_neg q61, if_neg q43, if_neg q45, if_pos q42] at h; exact h) | (rw [if_neg q60, if_neg q61, if_neg q43, if_neg q45, if_neg q42] at h; exact h)
          · refine r_if_eq (tgt := 83) dX7_between_75 (by decide) (fun _ => ?_) (fun hqz => absurd (by decide) hqz)
            refine r_aload_n dX7_between_83 rfl ?_
            refine r_bipush (v := 42) dX7_between_84 rfl ?_
            refine r_callV1 dX7_between_86 lk_X7_155 (ly_38 hE) rfl (Nat.le_of_ble_eq_true rfl) (sp_isSign hE hz hf (b := 42) (by decide) rfl hs.1 (fun (q42 : tk f z i = 42) => ?_) (fun (q42 : ¬ tk f z i = 42) => ?_))
            · refine r_if_eq (tgt := 97) dX7_between_89 (by decide) (fun hqz => absurd hqz (by decide)) (fun _ => ?_)
              refine r_bipush (v := (-27)) dX7_between_92 rfl ?_
              refine r_goto (tgt := 98) dX7_between_94 (by decide) ?_
              refine r_ireturn dX7_between_98 rfl rfl ?_
              first | (rw [if_pos q60] at h; exact h) | (rw [if_neg q60, if_pos q61] at h; exact h) | (rw [if_neg q60, if_neg q61, if_pos q43] at h; exact h) | (rw [if_neg q60, if_neg q61, if_neg q43, if_pos q45] at h; exact h) | (rw [if_neg q60, if_neg q61, if_neg q43, if_neg q45, if_pos q42] at h; exact h) | (rw [if_neg q60, if_neg q61, if_neg q43, if_neg q45, if_neg q42] at h; exact h)
            · refine r_if_eq (tgt := 97) dX7_between_89 (by decide) (fun _ => ?_) (fun hqz => absurd (by decide) hqz)
              refine r_iconst (v := 0) dX7_between_97 rfl ?_
              refine r_ireturn dX7_between_98 rfl rfl ?_
              first | (rw [if_pos q60] at h; exact h) | (rw [if_neg q60, if_pos q61] at h; exact h) | (rw [if_neg q60, if_neg q61, if_pos q43] at h; exact h) | (rw [if_neg q60, if_neg q61, if_neg q43, if_pos q45] at h; exact h) | (rw [if_neg q60, if_neg q61, if_neg q43, if_neg q45, if_pos q42] at h; exact h) | (rw [if_neg q60, if_neg q61, if_neg q43, if_neg q45, if_neg q42] at h; exact h)
set_option maxRecDepth 100000 in
set_option maxHeartbeats 1000000 in
theorem bg_name (hE : hM E) (hz : z ≤ 160) (hf : ∀ j, j < z → ∃ b, b < 256 ∧ f j = nI b) (hT : T < 6) (hl : out.length < 160) (hs : MS A f z T i W out) (h2 : 0 ≤ tk f z i ∧ tk f z i < 6) (h : ∀ A', MF T A A' → MS A' f z T i W (out ++ [-10 - tk f z i]) → Ph (some (.int 1)) A' L) : qC E mm_X7_begin (d + 2) [.ref 38] A L Ph := by
  have hn := hs.2.2.2.2.2.2.2
  obtain ⟨q, hq, eq⟩ := pk_yes (n := 6) (by decide) (fun y => i_nle h2.1 y) (fun y => i_nle y h2.2)
  have ew : wv f z i = nI q := by
    rcases wv_tk (i := i) hf with ⟨k, hk, ek, ew⟩ | ⟨ew, ek⟩
    · rw [ew, ← ek, eq]
    · exact absurd eq (ek q (by omega))
  rw [eq] at h
  refine qC.enter (by decide) (Nat.le_of_ble_eq_true rfl) ?_
  refine r_aload_n dX7_begin_0 rfl ?_
  refine r_callV0 dX7_begin_1 lk_X7_152 (ly_38 hE) rfl (Nat.le_of_ble_eq_true rfl) (sp_word hE hz hs.1 hn ?_)
  refine r_rw (y := nI q) ew ?_
  refine r_istore_n (loc' := [(1, .int (nI q)), (0, .ref 38)]) dX7_begin_4 (by decide) rfl ?_
  refine r_iload_n dX7_begin_5 rfl ?_
  refine r_iconst (v := 0) dX7_begin_6 rfl ?_
  refine r_iconst (v := 5) dX7_begin_7 rfl ?_
  refine r_callS3 dX7_begin_8 lk_X7_78 (Nat.le_of_ble_eq_true rfl) (in_t (lim := 6) rfl rfl (by decide) hq ?_)
  refine r_if_eq (tgt := 24) dX7_begin_11 (by decide) (fun hqz => absurd hqz (by decide)) (fun _ => ?_)
  refine r_aload_n dX7_begin_14 rfl ?_
  refine r_bipush (v := (-10)) dX7_begin_15 rfl ?_
  refine r_iload_n dX7_begin_17 rfl ?_
  refine r_isub dX7_begin_18 ?_
  refine r_callV1 dX7_begin_19 lk_X7_146 (ly_38 hE) rfl (Nat.le_of_ble_eq_true rfl) (sp_write hE hT hl hs.2.2.1 hs.2.2.2.1 ?_)
  refine r_iconst (v := 1) dX7_begin_22 rfl ?_
  refine r_ireturn dX7_begin_23 rfl rfl ?_
  exact h _ wrA_mf hs.wr
set_option maxRecDepth 100000 in
set_option maxHeartbeats 1000000 in
theorem bg_num (hE : hM E) (hz : z ≤ 160) (hf : ∀ j, j < z → ∃ b, b < 256 ∧ f j = nI b) (hT : T < 6) (hl : out.length < 160) (hs : MS A f z T i W out) (h1 : tk f z i = 300) (h : ∀ A', MF T A A' → MS A' f z T i W (out ++ [am f z i]) → Ph (some (.int 1)) A' L) : qC E mm_X7_begin (d + 2) [.ref 38] A L Ph := by
  have hn := hs.2.2.2.2.2.2.2
  have ew : wv f z i = -1 := by
    rcases wv_tk (i := i) hf with ⟨k, hk, ek, ew⟩ | ⟨ew, ek⟩
    · exact absurd ((nI_eq (b := 300) (by omega) (by decide)).mp (ek.symm.trans h1)) (by omega)
    · exact ew
  have hs2 := (nm_tk (i := i) hf).mpr h1
  have hse := tS_le (f := f) hz i
  have hez := (tE_le (f := f) hz (i + 1)).1
  refine qC.enter (by decide) (Nat.le_of_ble_eq_true rfl) ?_
  refine r_aload_n dX7_begin_0 rfl ?_
  refine r_callV0 dX7_begin_1 lk_X7_152 (ly_38 hE) rfl (Nat.le_of_ble_eq_true rfl) (sp_word hE hz hs.1 hn ?_)
  refine r_rw (y := -1) ew ?_
  refine r_istore_n (loc' := [(1, .int (-1)), (0, .ref 38)]) dX7_begin_4 (by decide) rfl ?_
  refine r_iload_n dX7_begin_5 rfl ?_
  refine r_iconst (v := 0) dX7_begin_6 rfl ?_
  refine r_iconst (v := 5) dX7_begin_7 rfl ?_
  refine r_callS3 dX7_begin_8 lk_X7_78 (Nat.le_of_ble_eq_true rfl) (in_f 6 rfl rfl (by decide) (fun j hj e => nI_nm1 (by omega) e.symm) ?_)
  refine r_if_eq (tgt := 24) dX7_begin_11 (by decide) (fun _ => ?_) (fun hqz => absurd (by decide) hqz)
  refine r_aload_n dX7_begin_24 rfl ?_
  refine r_getI dX7_begin_25 fl_X7_131 (ly_38 hE) rfl ?_
  refine r_rw (y := 2) (by rw [hs.1.2.2.2.2, hs2.1]; rfl) ?_
  refine r_iconst (v := 2) dX7_begin_28 rfl ?_
  refine r_icmp_ne (tgt := 55) dX7_begin_29 (by decide) (fun hqz => absurd (by decide) hqz) (fun _ => ?_)
  refine r_aload_n dX7_begin_32 rfl ?_
  refine r_getI dX7_begin_33 fl_X7_122 (ly_38 hE) rfl ?_
  refine r_rw (y := nI (tE f z (i + 1))) hs.1.2.2.1 ?_
  refine r_aload_n dX7_begin_36 rfl ?_
  refine r_getI dX7_begin_37 fl_X7_125 (ly_38 hE) rfl ?_
  refine r_rw (y := nI (tS f z i)) hs.1.2.2.2.1 ?_
  refine r_isub dX7_begin_40 ?_
  refine r_rw (y := nI (tE f z (i + 1) - tS f z i)) (pk_sub hse) ?_
  refine r_iconst (v := 4) dX7_begin_41 rfl ?_
  refine r_icmp_gt (tgt := 55) dX7_begin_42 (by decide) (fun hqz => absurd hqz (i_nle (nI_le (b := 4) hs2.2 (by decide)))) (fun _ => ?_)
  refine r_aload_n dX7_begin_45 rfl ?_
  refine r_aload_n dX7_begin_46 rfl ?_
  refine r_callV0 dX7_begin_47 lk_X7_158 (ly_38 hE) rfl (Nat.le_of_ble_eq_true rfl) (sp_numberThere hE hz hs.1 ?_)
  refine r_callV1 dX7_begin_50 lk_X7_146 (ly_38 hE) rfl (Nat.le_of_ble_eq_true rfl) (sp_write hE hT hl hs.2.2.1 hs.2.2.2.1 ?_)
  refine r_iconst (v := 1) dX7_begin_53 rfl ?_
  refine r_ireturn dX7_begin_54 rfl rfl ?_
  exact h _ wrA_mf hs.wr
set_option maxRecDepth 100000 in
set_option maxHeartbeats 1000000 in
theorem bg_br (hE : hM E) (hz : z ≤ 160) (hf : ∀ j, j < z → ∃ b, b < 256 ∧ f j = nI b) (hl : W.length < 160) (hs : MS A f z T i W out) (ht : tk f z i = 40) (ho : cn W < 5) (h : ∀ A', MF T A A' → MS A' f z T i (0 :: W) out → Ph (some (.int 2)) A' L) : qC E mm_X7_begin (d + 2) [.ref 38] A L Ph := by
  have h1 : ¬ tk f z i = 300 := by rw [ht]; decide
  have hn := hs.2.2.2.2.2.2.2
  have h4 := so_4 f z (tS f z i)
  have hse := tS_le (f := f) hz i
  have hez := (tE_le (f := f) hz (i + 1)).1
  have nm : ¬ (so f z (tS f z i) = 2 ∧ tE f z (i + 1) - tS f z i ≤ 4) := fun y => h1 ((nm_tk (i := i) hf).mp y)
  have ew : wv f z i = -1 := by
    rcases wv_tk (i := i) hf with ⟨k, hk, ek, ew⟩ | ⟨ew, ek⟩
    · exact absurd ((nI_eq (b := 40) (by omega) (by decide)).mp (ek.symm.trans ht)) (by omega)
    · exact ew
  by_cases c2 : so f z (tS f z i) = 2
  · refine qC.enter (by decide) (Nat.le_of_ble_eq_true rfl) ?_
    refine r_aload_n dX7_begin_0 rfl ?_
    refine r_callV0 dX7_begin_1 lk_X7_152 (ly_38 hE) rfl (Nat.le_of_ble_eq_true rfl) (sp_word hE hz hs.1 hn ?_)
    refine r_rw (y := -1) ew ?_
    refine r_istore_n (loc' := [(1, .int (-1)), (0, .ref 38)]) dX7_begin_4 (by decide) rfl ?_
    refine r_iload_n dX7_begin_5 rfl ?_
    refine r_iconst (v := 0) dX7_begin_6 rfl ?_
    refine r_iconst (v := 5) dX7_begin_7 rfl ?_
    refine r_callS3 dX7_begin_8 lk_X7_78 (Nat.le_of_ble_eq_true rfl) (in_f 6 rfl rfl (by decide) (fun j hj e => nI_nm1 (by omega) e.symm) ?_)
    refine r_if_eq (tgt := 24) dX7_begin_11 (by decide) (fun _ => ?_) (fun hqz => absurd (by decide) hqz)
    refine r_aload_n dX7_begin_24 rfl ?_
    refine r_getI dX7_begin_25 fl_X7_131 (ly_38 hE) rfl ?_
    refine r_rw (y := 2) (by rw [hs.1.2.2.2.2, c2]; rfl) ?_
    refine r_iconst (v := 2) dX7_begin_28 rfl ?_
    refine r_icmp_ne (tgt := 55) dX7_begin_29 (by decide) (fun hqz => absurd (by decide) hqz) (fun _ => ?_)
    refine r_aload_n dX7_begin_32 rfl ?_
    refine r_getI dX7_begin_33 fl_X7_122 (ly_38 hE) rfl ?_
    refine r_rw (y := nI (tE f z (i + 1))) hs.1.2.2.1 ?_
    refine r_aload_n dX7_begin_36 rfl ?_
    refine r_getI dX7_begin_37 fl_X7_125 (ly_38 hE) rfl ?_
    refine r_rw (y := nI (tS f z i)) hs.1.2.2.2.1 ?_
    refine r_isub dX7_begin_40 ?_
    refine r_rw (y := nI (tE f z (i + 1) - tS f z i)) (pk_sub hse) ?_
    refine r_iconst (v := 4) dX7_begin_41 rfl ?_
    refine r_icmp_gt (tgt := 55) dX7_begin_42 (by decide) (fun _ => ?_) (fun hqz => absurd (nI_lt (a := 4) (by omega) (by omega)) hqz)
    refine r_aload_n dX7_begin_55 rfl ?_
    refine r_bipush (v := 40) dX7_begin_56 rfl ?_
    refine r_callV1 dX7_begin_58 lk_X7_155 (ly_38 hE) rfl (Nat.le_of_ble_eq_true rfl) (sp_isSign hE hz hf (b := 40) (by decide) rfl hs.1 (fun _ => ?_) (fun y => absurd ht y))
    refine r_if_eq (tgt := 68) dX7_begin_61 (by decide) (fun hqz => absurd hqz (by decide)) (fun _ => ?_)
    refine r_iconst (v := 0) dX7_begin_64 rfl ?_
    refine r_goto (tgt := 103) dX7_begin_65 (by decide) ?_
    refine r_istore_n (loc' := [(2, .int 0), (1, .int (-1)), (0, .ref 38)]) dX7_begin_103 (by decide) rfl ?_
    refine r_iload_n dX7_begin_104 rfl ?_
    refine r_bipush (v := (-25)) dX7_begin_105 rfl ?_
    refine r_icmp_eq (tgt := 118) dX7_begin_107 (by decide) (fun hqz => absurd hqz (by decide)) (fun _ => ?_)
    refine r_aload_n dX7_begin_110 rfl ?_
    refine r_getI dX7_begin_111 fl_X7_149 (ly_38 hE) rfl ?_
    refine r_rw (y := nI (cn W)) hs.2.1 ?_
    refine r_iconst (v := 5) dX7_begin_114 rfl ?_
    refine r_icmp_ne (tgt := 120) dX7_begin_115 (by decide) (fun _ => ?_) (fun hqz => absurd hqz (fun y => by have := (nI_eq (b := 5) (by omega) (by decide)).mp y; omega))
    refine r_aload_n dX7_begin_120 rfl ?_
    refine r_dup dX7_begin_121 rfl ?_
    refine r_getI dX7_begin_122 fl_X7_149 (ly_38 hE) rfl ?_
    refine r_rw (y := nI (cn W)) hs.2.1 ?_
    refine r_iconst (v := 1) dX7_begin_125 rfl ?_
    refine r_iadd dX7_begin_126 ?_
    refine r_rw (y := nI (cn W + 1)) (nI_1 _) ?_
    refine r_putI dX7_begin_127 fl_X7_149 fp_7_8 (ly_38 hE) rfl rfl rfl ?_
    refine r_aload_n dX7_begin_130 rfl ?_
    refine r_iload_n dX7_begin_131 rfl ?_
    refine r_callV1 dX7_begin_132 lk_X7_161 (ly_38 hE) rfl (Nat.le_of_ble_eq_true rfl) (sp_await hE (show W.length < 160 by omega) (by rw [s2_nj (fun _ => by decide)]; exact hs.2.2.2.2.1) ?_)
    refine r_iconst (v := 2) dX7_begin_135 rfl ?_
    refine r_ireturn dX7_begin_136 rfl rfl ?_
    exact h _ (((F8.st (X := [8]) (by decide)).mf (by decide) (by decide) (by decide)).tr awA_mf) (hs.op (by decide))
  · refine qC.enter (by decide) (Nat.le_of_ble_eq_true rfl) ?_
    refine r_aload_n dX7_begin_0 rfl ?_
    refine r_callV0 dX7_begin_1 lk_X7_152 (ly_38 hE) rfl (Nat.le_of_ble_eq_true rfl) (sp_word hE hz hs.1 hn ?_)
    refine r_rw (y := -1) ew ?_
    refine r_istore_n (loc' := [(1, .int (-1)), (0, .ref 38)]) dX7_begin_4 (by decide) rfl ?_
    refine r_iload_n dX7_begin_5 rfl ?_
    refine r_iconst (v := 0) dX7_begin_6 rfl ?_
    refine r_iconst (v := 5) dX7_begin_7 rfl ?_
    refine r_callS3 dX7_begin_8 lk_X7_78 (Nat.le_of_ble_eq_true rfl) (in_f 6 rfl rfl (by decide) (fun j hj e => nI_nm1 (by omega) e.symm) ?_)
    refine r_if_eq (tgt := 24) dX7_begin_11 (by decide) (fun _ => ?_) (fun hqz => absurd (by decide) hqz)
    refine r_aload_n dX7_begin_24 rfl ?_
    refine r_getI dX7_begin_25 fl_X7_131 (ly_38 hE) rfl ?_
    refine r_rw (y := nI (so f z (tS f z i))) hs.1.2.2.2.2 ?_
    refine r_iconst (v := 2) dX7_begin_28 rfl ?_
    refine r_icmp_ne (tgt := 55) dX7_begin_29 (by decide) (fun _ => ?_) (fun hqz => absurd hqz (fun y => c2 ((nI_eq (b := 2) (by omega) (by decide)).mp y)))
    refine r_aload_n dX7_begin_55 rfl ?_
    refine r_bipush (v := 40) dX7_begin_56 rfl ?_
    refine r_callV1 dX7_begin_58 lk_X7_155 (ly_38 hE) rfl (Nat.le_of_ble_eq_true rfl) (sp_isSign hE hz hf (b := 40) (by decide) rfl hs.1 (fun _ => ?_) (fun y => absurd ht y))
    refine r_if_eq (tgt := 68) dX7_begin_61 (by decide) (fun hqz => absurd hqz (by decide)) (fun _ => ?_)
    refine r_iconst (v := 0) dX7_begin_64 rfl ?_
    refine r_goto (tgt := 103) dX7_begin_65 (by decide) ?_
    refine r_istore_n (loc' := [(2, .int 0), (1, .int (-1)), (0, .ref 38)]) dX7_begin_103 (by decide) rfl ?_
    refine r_iload_n dX7_begin_104 rfl ?_
    refine r_bipush (v := (-25)) dX7_begin_105 rfl ?_
    refine r_icmp_eq (tgt := 118) dX7_begin_107 (by decide) (fun hqz => absurd hqz (by decide)) (fun _ => ?_)
    refine r_aload_n dX7_begin_110 rfl ?_
    refine r_getI dX7_begin_111 fl_X7_149 (ly_38 hE) rfl ?_
    refine r_rw (y := nI (cn W)) hs.2.1 ?_
    refine r_iconst (v := 5) dX7_begin_114 rfl ?_
    refine r_icmp_ne (tgt := 120) dX7_begin_115 (by decide) (fun _ => ?_) (fun hqz => absurd hqz (fun y => by have := (nI_eq (b := 5) (by omega) (by decide)).mp y; omega))
    refine r_aload_n dX7_begin_120 rfl ?_
    refine r_dup dX7_begin_121 rfl ?_
    refine r_getI dX7_begin_122 fl_X7_149 (ly_38 hE) rfl ?_
    refine r_rw (y := nI (cn W)) hs.2.1 ?_
    refine r_iconst (v := 1) dX7_begin_125 rfl ?_
    refine r_iadd dX7_begin_126 ?_
    refine r_rw (y := nI (cn W + 1)) (nI_1 _) ?_
    refine r_putI dX7_begin_127 fl_X7_149 fp_7_8 (ly_38 hE) rfl rfl rfl ?_
    refine r_aload_n dX7_begin_130 rfl ?_
    refine r_iload_n dX7_begin_131 rfl ?_
    refine r_callV1 dX7_begin_132 lk_X7_161 (ly_38 hE) rfl (Nat.le_of_ble_eq_true rfl) (sp_await hE (show W.length < 160 by omega) (by rw [s2_nj (fun _ => by decide)]; exact hs.2.2.2.2.1) ?_)
    refine r_iconst (v := 2) dX7_begin_135 rfl ?_
    refine r_ireturn dX7_begin_136 rfl rfl ?_
    exact h _ (((F8.st (X := [8]) (by decide)).mf (by decide) (by decide) (by decide)).tr awA_mf) (hs.op (by decide))
set_option maxRecDepth 100000 in
set_option maxHeartbeats 1000000 in
theorem bg_mi (hE : hM E) (hz : z ≤ 160) (hf : ∀ j, j < z → ∃ b, b < 256 ∧ f j = nI b) (hl : W.length < 160) (hs : MS A f z T i W out) (ht : tk f z i = 45) (ho : cn W < 5) (h : ∀ A', MF T A A' → MS A' f z T i (-28 :: W) out → Ph (some (.int 2)) A' L) : qC E mm_X7_begin (d + 2) [.ref 38] A L Ph := by
  have h1 : ¬ tk f z i = 300 := by rw [ht]; decide
  have hn := hs.2.2.2.2.2.2.2
  have h4 := so_4 f z (tS f z i)
  have hse := tS_le (f := f) hz i
  have hez := (tE_le (f := f) hz (i + 1)).1
  have nm : ¬ (so f z (tS f z i) = 2 ∧ tE f z (i + 1) - tS f z i ≤ 4) := fun y => h1 ((nm_tk (i := i) hf).mp y)
  have ew : wv f z i = -1 := by
    rcases wv_tk (i := i) hf with ⟨k, hk, ek, ew⟩ | ⟨ew, ek⟩
    · exact absurd ((nI_eq (b := 45) (by omega) (by decide)).mp (ek.symm.trans ht)) (by omega)
    · exact ew
  by_cases c2 : so f z (tS f z i) = 2
  · refine qC.enter (by decide) (Nat.le_of_ble_eq_true rfl) ?_
    refine r_aload_n dX7_begin_0 rfl ?_
    refine r_callV0 dX7_begin_1 lk_X7_152 (ly_38 hE) rfl (Nat.le_of_ble_eq_true rfl) (sp_word hE hz hs.1 hn ?_)
    refine r_rw (y := -1) ew ?_
    refine r_istore_n (loc' := [(1, .int (-1)), (0, .ref 38)]) dX7_begin_4 (by decide) rfl ?_
    refine r_iload_n dX7_begin_5 rfl ?_
    refine r_iconst (v := 0) dX7_begin_6 rfl ?_
    refine r_iconst (v := 5) dX7_begin_7 rfl ?_
    refine r_callS3 dX7_begin_8 lk_X7_78 (Nat.le_of_ble_eq_true rfl) (in_f 6 rfl rfl (by decide) (fun j hj e => nI_nm1 (by omega) e.symm) ?_)
    refine r_if_eq (tgt := 24) dX7_begin_11 (by decide) (fun _ => ?_) (fun hqz => absurd (by decide) hqz)
    refine r_aload_n dX7_begin_24 rfl ?_
    refine r_getI dX7_begin_25 fl_X7_131 (ly_38 hE) rfl ?_
    refine r_rw (y := 2) (by rw [hs.1.2.2.2.2, c2]; rfl) ?_
    refine r_iconst (v := 2) dX7_begin_28 rfl ?_
    refine r_icmp_ne (tgt := 55) dX7_begin_29 (by decide) (fun hqz => absurd (by decide) hqz) (fun _ => ?_)
    refine r_aload_n dX7_begin_32 rfl ?_
    refine r_getI dX7_begin_33 fl_X7_122 (ly_38 hE) rfl ?_
    refine r_rw (y := nI (tE f z (i + 1))) hs.1.2.2.1 ?_
    refine r_aload_n dX7_begin_36 rfl ?_
    refine r_getI dX7_begin_37 fl_X7_125 (ly_38 hE) rfl ?_
    refine r_rw (y := nI (tS f z i)) hs.1.2.2.2.1 ?_
    refine r_isub dX7_begin_40 ?_
    refine r_rw (y := nI (tE f z (i + 1) - tS f z i)) (pk_sub hse) ?_
    refine r_iconst (v := 4) dX7_begin_41 rfl ?_
    refine r_icmp_gt (tgt := 55) dX7_begin_42 (by decide) (fun _ => ?_) (fun hqz => absurd (nI_lt (a := 4) (by omega) (by omega)) hqz)
    refine r_aload_n dX7_begin_55 rfl ?_
    refine r_bipush (v := 40) dX7_begin_56 rfl ?_
    refine r_callV1 dX7_begin_58 lk_X7_155 (ly_38 hE) rfl (Nat.le_of_ble_eq_true rfl) (sp_isSign hE hz hf (b := 40) (by decide) rfl hs.1 (fun y => absurd (ht.symm.trans y) (by decide)) (fun _ => ?_))
    refine r_if_eq (tgt := 68) dX7_begin_61 (by decide) (fun _ => ?_) (fun hqz => absurd (by decide) hqz)
    refine r_aload_n dX7_begin_68 rfl ?_
    refine r_bipush (v := 45) dX7_begin_69 rfl ?_
    refine r_callV1 dX7_begin_71 lk_X7_155 (ly_38 hE) rfl (Nat.le_of_ble_eq_true rfl) (sp_isSign hE hz hf (b := 45) (by decide) rfl hs.1 (fun _ => ?_) (fun y => absurd ht y))
    refine r_if_eq (tgt := 82) dX7_begin_74 (by decide) (fun hqz => absurd hqz (by decide)) (fun _ => ?_)
    refine r_bipush (v := (-28)) dX7_begin_77 rfl ?_
    refine r_goto (tgt := 103) dX7_begin_79 (by decide) ?_
    refine r_istore_n (loc' := [(2, .int (-28)), (1, .int (-1)), (0, .ref 38)]) dX7_begin_103 (by decide) rfl ?_
    refine r_iload_n dX7_begin_104 rfl ?_
    refine r_bipush (v := (-25)) dX7_begin_105 rfl ?_
    refine r_icmp_eq (tgt := 118) dX7_begin_107 (by decide) (fun hqz => absurd hqz (by decide)) (fun _ => ?_)
    refine r_aload_n dX7_begin_110 rfl ?_
    refine r_getI dX7_begin_111 fl_X7_149 (ly_38 hE) rfl ?_
    refine r_rw (y := nI (cn W)) hs.2.1 ?_
    refine r_iconst (v := 5) dX7_begin_114 rfl ?_
    refine r_icmp_ne (tgt := 120) dX7_begin_115 (by decide) (fun _ => ?_) (fun hqz => absurd hqz (fun y => by have := (nI_eq (b := 5) (by omega) (by decide)).mp y; omega))
    refine r_aload_n dX7_begin_120 rfl ?_
    refine r_dup dX7_begin_121 rfl ?_
    refine r_getI dX7_begin_122 fl_X7_149 (ly_38 hE) rfl ?_
    refine r_rw (y := nI (cn W)) hs.2.1 ?_
    refine r_iconst (v := 1) dX7_begin_125 rfl ?_
    refine r_iadd dX7_begin_126 ?_
    refine r_rw (y := nI (cn W + 1)) (nI_1 _) ?_
    refine r_putI dX7_begin_127 fl_X7_149 fp_7_8 (ly_38 hE) rfl rfl rfl ?_
    refine r_aload_n dX7_begin_130 rfl ?_
    refine r_iload_n dX7_begin_131 rfl ?_
    refine r_callV1 dX7_begin_132 lk_X7_161 (ly_38 hE) rfl (Nat.le_of_ble_eq_true rfl) (sp_await hE (show W.length < 160 by omega) (by rw [s2_nj (fun _ => by decide)]; exact hs.2.2.2.2.1) ?_)
    refine r_iconst (v := 2) dX7_begin_135 rfl ?_
    refine r_ireturn dX7_begin_136 rfl rfl ?_
    exact h _ (((F8.st (X := [8]) (by decide)).mf (by decide) (by decide) (by decide)).tr awA_mf) (hs.op (by decide))
  · refine qC.enter (by decide) (Nat.le_of_ble_eq_true rfl) ?_
    refine r_aload_n dX7_begin_0 rfl ?_
    refine r_callV0 dX7_begin_1 lk_X7_152 (ly_38 hE) rfl (Nat.le_of_ble_eq_true rfl) (sp_word hE hz hs.1 hn ?_)
    refine r_rw (y := -1) ew ?_
    refine r_istore_n (loc' := [(1, .int (-1)), (0, .ref 38)]) dX7_begin_4 (by decide) rfl ?_
    refine r_iload_n dX7_begin_5 rfl ?_
    refine r_iconst (v := 0) dX7_begin_6 rfl ?_
    refine r_iconst (v := 5) dX7_begin_7 rfl ?_
    refine r_callS3 dX7_begin_8 lk_X7_78 (Nat.le_of_ble_eq_true rfl) (in_f 6 rfl rfl (by decide) (fun j hj e => nI_nm1 (by omega) e.symm) ?_)
    refine r_if_eq (tgt := 24) dX7_begin_11 (by decide) (fun _ => ?_) (fun hqz => absurd (by decide) hqz)
    refine r_aload_n dX7_begin_24 rfl ?_
    refine r_getI dX7_begin_25 fl_X7_131 (ly_38 hE) rfl ?_
    refine r_rw (y := nI (so f z (tS f z i))) hs.1.2.2.2.2 ?_
    refine r_iconst (v := 2) dX7_begin_28 rfl ?_
    refine r_icmp_ne (tgt := 55) dX7_begin_29 (by decide) (fun _ => ?_) (fun hqz => absurd hqz (fun y => c2 ((nI_eq (b := 2) (by omega) (by decide)).mp y)))
    refine r_aload_n dX7_begin_55 rfl ?_
    refine r_bipush (v := 40) dX7_begin_56 rfl ?_
    refine r_callV1 dX7_begin_58 lk_X7_155 (ly_38 hE) rfl (Nat.le_of_ble_eq_true rfl) (sp_isSign hE hz hf (b := 40) (by decide) rfl hs.1 (fun y => absurd (ht.symm.trans y) (by decide)) (fun _ => ?_))
    refine r_if_eq (tgt := 68) dX7_begin_61 (by decide) (fun _ => ?_) (fun hqz => absurd (by decide) hqz)
    refine r_aload_n dX7_begin_68 rfl ?_
    refine r_bipush (v := 45) dX7_begin_69 rfl ?_
    refine r_callV1 dX7_begin_71 lk_X7_155 (ly_38 hE) rfl (Nat.le_of_ble_eq_true rfl) (sp_isSign hE hz hf (b := 45) (by decide) rfl hs.1 (fun _ => ?_) (fun y => absurd ht y))
    refine r_if_eq (tgt := 82) dX7_begin_74 (by decide) (fun hqz => absurd hqz (by decide)) (fun _ => ?_)
    refine r_bipush (v := (-28)) dX7_begin_77 rfl ?_
    refine r_goto (tgt := 103) dX7_begin_79 (by decide) ?_
    refine r_istore_n (loc' := [(2, .int (-28)), (1, .int (-1)), (0, .ref 38)]) dX7_begin_103 (by decide) rfl ?_
    refine r_iload_n dX7_begin_104 rfl ?_
    refine r_bipush (v := (-25)) dX7_begin_105 rfl ?_
    refine r_icmp_eq (tgt := 118) dX7_begin_107 (by decide) (fun hqz => absurd hqz (by decide)) (fun _ => ?_)
    refine r_aload_n dX7_begin_110 rfl ?_
    refine r_getI dX7_begin_111 fl_X7_149 (ly_38 hE) rfl ?_
    refine r_rw (y := nI (cn W)) hs.2.1 ?_
    refine r_iconst (v := 5) dX7_begin_114 rfl ?_
    refine r_icmp_ne (tgt := 120) dX7_begin_115 (by decide) (fun _ => ?_) (fun hqz => absurd hqz (fun y => by have := (nI_eq (b := 5) (by omega) (by decide)).mp y; omega))
    refine r_aload_n dX7_begin_120 rfl ?_
    refine r_dup dX7_begin_121 rfl ?_
    refine r_getI dX7_begin_122 fl_X7_149 (ly_38 hE) rfl ?_
    refine r_rw (y := nI (cn W)) hs.2.1 ?_
    refine r_iconst (v := 1) dX7_begin_125 rfl ?_
    refine r_iadd dX7_begin_126 ?_
    refine r_rw (y := nI (cn W + 1)) (nI_1 _) ?_
    refine r_putI dX7_begin_127 fl_X7_149 fp_7_8 (ly_38 hE) rfl rfl rfl ?_
    refine r_aload_n dX7_begin_130 rfl ?_
    refine r_iload_n dX7_begin_131 rfl ?_
    refine r_callV1 dX7_begin_132 lk_X7_161 (ly_38 hE) rfl (Nat.le_of_ble_eq_true rfl) (sp_await hE (show W.length < 160 by omega) (by rw [s2_nj (fun _ => by decide)]; exact hs.2.2.2.2.1) ?_)
    refine r_iconst (v := 2) dX7_begin_135 rfl ?_
    refine r_ireturn dX7_begin_136 rfl rfl ?_
    exact h _ (((F8.st (X := [8]) (by decide)).mf (by decide) (by decide) (by decide)).tr awA_mf) (hs.op (by decide))
set_option maxRecDepth 100000 in
set_option maxHeartbeats 1000000 in
theorem bg_not (hE : hM E) (hz : z ≤ 160) (hf : ∀ j, j < z → ∃ b, b < 256 ∧ f j = nI b) (hl : W.length < 160) (hs : MS A f z T i W out) (ht : tk f z i = 11) (hla : la W ≤ 3) (ho : cn W < 5) (h : ∀ A', MF T A A' → MS A' f z T i (-22 :: W) out → Ph (some (.int 2)) A' L) : qC E mm_X7_begin (d + 2) [.ref 38] A L Ph := by
  have h1 : ¬ tk f z i = 300 := by rw [ht]; decide
  have hn := hs.2.2.2.2.2.2.2
  have h4 := so_4 f z (tS f z i)
  have hse := tS_le (f := f) hz i
  have hez := (tE_le (f := f) hz (i + 1)).1
  have nm : ¬ (so f z (tS f z i) = 2 ∧ tE f z (i + 1) - tS f z i ≤ 4) := fun y => h1 ((nm_tk (i := i) hf).mp y)
  have ew : wv f z i = 11 := by
    rcases wv_tk (i := i) hf with ⟨k, hk, ek, ew⟩ | ⟨ew, ek⟩
    · rw [ew, ← ek, ht]
    · exact absurd ht (ek 11 (by decide))
  by_cases c2 : so f z (tS f z i) = 2
  · refine qC.enter (by decide) (Nat.le_of_ble_eq_true rfl) ?_
    refine r_aload_n dX7_begin_0 rfl ?_
    refine r_callV0 dX7_begin_1 lk_X7_152 (ly_38 hE) rfl (Nat.le_of_ble_eq_true rfl) (sp_word hE hz hs.1 hn ?_)
    refine r_rw (y := 11) ew ?_
    refine r_istore_n (loc' := [(1, .int 11), (0, .ref 38)]) dX7_begin_4 (by decide) rfl ?_
    refine r_iload_n dX7_begin_5 rfl ?_
    refine r_iconst (v := 0) dX7_begin_6 rfl ?_
    refine r_iconst (v := 5) dX7_begin_7 rfl ?_
    refine r_callS3 dX7_begin_8 lk_X7_78 (Nat.le_of_ble_eq_true rfl) (in_f (v := 11) 6 rfl rfl (by decide) (fun j hj e => absurd ((nI_eq (a := 11) (by decide) (by omega)).mp e) (by omega)) ?_)
    refine r_if_eq (tgt := 24) dX7_begin_11 (by decide) (fun _ => ?_) (fun hqz => absurd (by decide) hqz)
    refine r_aload_n dX7_begin_24 rfl ?_
    refine r_getI dX7_begin_25 fl_X7_131 (ly_38 hE) rfl ?_
    refine r_rw (y := 2) (by rw [hs.1.2.2.2.2, c2]; rfl) ?_
    refine r_iconst (v := 2) dX7_begin_28 rfl ?_
    refine r_icmp_ne (tgt := 55) dX7_begin_29 (by decide) (fun hqz => absurd (by decide) hqz) (fun _ => ?_)
    refine r_aload_n dX7_begin_32 rfl ?_
    refine r_getI dX7_begin_33 fl_X7_122 (ly_38 hE) rfl ?_
    refine r_rw (y := nI (tE f z (i + 1))) hs.1.2.2.1 ?_
    refine r_aload_n dX7_begin_36 rfl ?_
    refine r_getI dX7_begin_37 fl_X7_125 (ly_38 hE) rfl ?_
    refine r_rw (y := nI (tS f z i)) hs.1.2.2.2.1 ?_
    refine r_isub dX7_begin_40 ?_
    refine r_rw (y := nI (tE f z (i + 1) - tS f z i)) (pk_sub hse) ?_
    refine r_iconst (v := 4) dX7_begin_41 rfl ?_
    refine r_icmp_gt (tgt := 55) dX7_begin_42 (by decide) (fun _ => ?_) (fun hqz => absurd (nI_lt (a := 4) (by omega) (by omega)) hqz)
    refine r_aload_n dX7_begin_55 rfl ?_
    refine r_bipush (v := 40) dX7_begin_56 rfl ?_
    refine r_callV1 dX7_begin_58 lk_X7_155 (ly_38 hE) rfl (Nat.le_of_ble_eq_true rfl) (sp_isSign hE hz hf (b := 40) (by decide) rfl hs.1 (fun y => absurd (ht.symm.trans y) (by decide)) (fun _ => ?_))
    refine r_if_eq (tgt := 68) dX7_begin_61 (by decide) (fun _ => ?_) (fun hqz => absurd (by decide) hqz)
    refine r_aload_n dX7_begin_68 rfl ?_
    refine r_bipush (v := 45) dX7_begin_69 rfl ?_
    refine r_callV1 dX7_begin_71 lk_X7_155 (ly_38 hE) rfl (Nat.le_of_ble_eq_true rfl) (sp_isSign hE hz hf (b := 45) (by decide) rfl hs.1 (fun y => absurd (ht.symm.trans y) (by decide)) (fun _ => ?_))
    refine r_if_eq (tgt := 82) dX7_begin_74 (by decide) (fun _ => ?_) (fun hqz => absurd (by decide) hqz)
    refine r_iload_n dX7_begin_82 rfl ?_
    refine r_bipush (v := 11) dX7_begin_83 rfl ?_
    refine r_icmp_ne (tgt := 101) dX7_begin_85 (by decide) (fun hqz => absurd (by decide) hqz) (fun _ => ?_)
    refine r_aload_n dX7_begin_88 rfl ?_
    refine r_callV0 dX7_begin_89 lk_X7_143 (ly_38 hE) rfl (Nat.le_of_ble_eq_true rfl) (sp_last hE (by omega) hs.2.2.2.2.1 hs.2.2.2.2.2.1 ?_)
    refine r_iconst (v := 3) dX7_begin_92 rfl ?_
    refine r_icmp_gt (tgt := 101) dX7_begin_93 (by decide) (fun hqz => absurd hqz (i_nle (nI_le (b := 3) hla (by decide)))) (fun _ => ?_)
    refine r_bipush (v := (-22)) dX7_begin_96 rfl ?_
    refine r_goto (tgt := 103) dX7_begin_98 (by decide) ?_
    refine r_istore_n (loc' := [(2, .int (-22)), (1, .int 11), (0, .ref 38)]) dX7_begin_103 (by decide) rfl ?_
    refine r_iload_n dX7_begin_104 rfl ?_
    refine r_bipush (v := (-25)) dX7_begin_105 rfl ?_
    refine r_icmp_eq (tgt := 118) dX7_begin_107 (by decide) (fun hqz => absurd hqz (by decide)) (fun _ => ?_)
    refine r_aload_n dX7_begin_110 rfl ?_
    refine r_getI dX7_begin_111 fl_X7_149 (ly_38 hE) rfl ?_
    refine r_rw (y := nI (cn W)) hs.2.1 ?_
    refine r_iconst (v := 5) dX7_begin_114 rfl ?_
    refine r_icmp_ne (tgt := 120) dX7_begin_115 (by decide) (fun _ => ?_) (fun hqz => absurd hqz (fun y => by have := (nI_eq (b := 5) (by omega) (by decide)).mp y; omega))
    refine r_aload_n dX7_begin_120 rfl ?_
    refine r_dup dX7_begin_121 rfl ?_
    refine r_getI dX7_begin_122 fl_X7_149 (ly_38 hE) rfl ?_
    refine r_rw (y := nI (cn W)) hs.2.1 ?_
    refine r_iconst (v := 1) dX7_begin_125 rfl ?_
    refine r_iadd dX7_begin_126 ?_
    refine r_rw (y := nI (cn W + 1)) (nI_1 _) ?_
    refine r_putI dX7_begin_127 fl_X7_149 fp_7_8 (ly_38 hE) rfl rfl rfl ?_
    refine r_aload_n dX7_begin_130 rfl ?_
    refine r_iload_n dX7_begin_131 rfl ?_
    refine r_callV1 dX7_begin_132 lk_X7_161 (ly_38 hE) rfl (Nat.le_of_ble_eq_true rfl) (sp_await hE (show W.length < 160 by omega) (by rw [s2_nj (fun _ => by decide)]; exact hs.2.2.2.2.1) ?_)
    refine r_iconst (v := 2) dX7_begin_135 rfl ?_
    refine r_ireturn dX7_begin_136 rfl rfl ?_
    exact h _ (((F8.st (X := [8]) (by decide)).mf (by decide) (by decide) (by decide)).tr awA_mf) (hs.op (by decide))
  · refine qC.enter (by decide) (Nat.le_of_ble_eq_true rfl) ?_
    refine r_aload_n dX7_begin_0 rfl ?_
    refine r_callV0 dX7_begin_1 lk_X7_152 (ly_38 hE) rfl (Nat.le_of_ble_eq_true rfl) (sp_word hE hz hs.1 hn ?_)
    refine r_rw (y := 11) ew ?_
    refine r_istore_n (loc' := [(1, .int 11), (0, .ref 38)]) dX7_begin_4 (by decide) rfl ?_
    refine r_iload_n dX7_begin_5 rfl ?_
    refine r_iconst (v := 0) dX7_begin_6 rfl ?_
    refine r_iconst (v := 5) dX7_begin_7 rfl ?_
    refine r_callS3 dX7_begin_8 lk_X7_78 (Nat.le_of_ble_eq_true rfl) (in_f (v := 11) 6 rfl rfl (by decide) (fun j hj e => absurd ((nI_eq (a := 11) (by decide) (by omega)).mp e) (by omega)) ?_)
    refine r_if_eq (tgt := 24) dX7_begin_11 (by decide) (fun _ => ?_) (fun hqz => absurd (by decide) hqz)
    refine r_aload_n dX7_begin_24 rfl ?_
    refine r_getI dX7_begin_25 fl_X7_131 (ly_38 hE) rfl ?_
    refine r_rw (y := nI (so f z (tS f z i))) hs.1.2.2.2.2 ?_
    refine r_iconst (v := 2) dX7_begin_28 rfl ?_
    refine r_icmp_ne (tgt := 55) dX7_begin_29 (by decide) (fun _ => ?_) (fun hqz => absurd hqz (fun y => c2 ((nI_eq (b := 2) (by omega) (by decide)).mp y)))
    refine r_aload_n dX7_begin_55 rfl ?_
    refine r_bipush (v := 40) dX7_begin_56 rfl ?_
    refine r_callV1 dX7_begin_58 lk_X7_155 (ly_38 hE) rfl (Nat.le_of_ble_eq_true rfl) (sp_isSign hE hz hf (b := 40) (by decide) rfl hs.1 (fun y => absurd (ht.symm.trans y) (by decide)) (fun _ => ?_))
    refine r_if_eq (tgt := 68) dX7_begin_61 (by decide) (fun _ => ?_) (fun hqz => absurd (by decide) hqz)
    refine r_aload_n dX7_begin_68 rfl ?_
    refine r_bipush (v := 45) dX7_begin_69 rfl ?_
    refine r_callV1 dX7_begin_71 lk_X7_155 (ly_38 hE) rfl (Nat.le_of_ble_eq_true rfl) (sp_isSign hE hz hf (b := 45) (by decide) rfl hs.1 (fun y => absurd (ht.symm.trans y) (by decide)) (fun _ => ?_))
    refine r_if_eq (tgt := 82) dX7_begin_74 (by decide) (fun _ => ?_) (fun hqz => absurd (by decide) hqz)
    refine r_iload_n dX7_begin_82 rfl ?_
    refine r_bipush (v := 11) dX7_begin_83 rfl ?_
    refine r_icmp_ne (tgt := 101) dX7_begin_85 (by decide) (fun hqz => absurd (by decide) hqz) (fun _ => ?_)
    refine r_aload_n dX7_begin_88 rfl ?_
    refine r_callV0 dX7_begin_89 lk_X7_143 (ly_38 hE) rfl (Nat.le_of_ble_eq_true rfl) (sp_last hE (by omega) hs.2.2.2.2.1 hs.2.2.2.2.2.1 ?_)
    refine r_iconst (v := 3) dX7_begin_92 rfl ?_
    refine r_icmp_gt (tgt := 101) dX7_begin_93 (by decide) (fun hqz => absurd hqz (i_nle (nI_le (b := 3) hla (by decide)))) (fun _ => ?_)
    refine r_bipush (v := (-22)) dX7_begin_96 rfl ?_
    refine r_goto (tgt := 103) dX7_begin_98 (by decide) ?_
    refine r_istore_n (loc' := [(2, .int (-22)), (1, .int 11), (0, .ref 38)]) dX7_begin_103 (by decide) rfl ?_
    refine r_iload_n dX7_begin_104 rfl ?_
    refine r_bipush (v := (-25)) dX7_begin_105 rfl ?_
    refine r_icmp_eq (tgt := 118) dX7_begin_107 (by decide) (fun hqz => absurd hqz (by decide)) (fun _ => ?_)
    refine r_aload_n dX7_begin_110 rfl ?_
    refine r_getI dX7_begin_111 fl_X7_149 (ly_38 hE) rfl ?_
    refine r_rw (y := nI (cn W)) hs.2.1 ?_
    refine r_iconst (v := 5) dX7_begin_114 rfl ?_
    refine r_icmp_ne (tgt := 120) dX7_begin_115 (by decide) (fun _ => ?_) (fun hqz => absurd hqz (fun y => by have := (nI_eq (b := 5) (by omega) (by decide)).mp y; omega))
    refine r_aload_n dX7_begin_120 rfl ?_
    refine r_dup dX7_begin_121 rfl ?_
    refine r_getI dX7_begin_122 fl_X7_149 (ly_38 hE) rfl ?_
    refine r_rw (y := nI (cn W)) hs.2.1 ?_
    refine r_iconst (v := 1) dX7_begin_125 rfl ?_
    refine r_iadd dX7_begin_126 ?_
    refine r_rw (y := nI (cn W + 1)) (nI_1 _) ?_
    refine r_putI dX7_begin_127 fl_X7_149 fp_7_8 (ly_38 hE) rfl rfl rfl ?_
    refine r_aload_n dX7_begin_130 rfl ?_
    refine r_iload_n dX7_begin_131 rfl ?_
    refine r_callV1 dX7_begin_132 lk_X7_161 (ly_38 hE) rfl (Nat.le_of_ble_eq_true rfl) (sp_await hE (show W.length < 160 by omega) (by rw [s2_nj (fun _ => by decide)]; exact hs.2.2.2.2.1) ?_)
    refine r_iconst (v := 2) dX7_begin_135 rfl ?_
    refine r_ireturn dX7_begin_136 rfl rfl ?_
    exact h _ (((F8.st (X := [8]) (by decide)).mf (by decide) (by decide) (by decide)).tr awA_mf) (hs.op (by decide))
set_option maxRecDepth 100000 in
set_option maxHeartbeats 1000000 in
theorem bg_fail (hE : hM E) (hz : z ≤ 160) (hf : ∀ j, j < z → ∃ b, b < 256 ∧ f j = nI b) (hl : W.length ≤ 160) (hs : MS A f z T i W out) (h1 : ¬ tk f z i = 300) (h2 : ¬ (0 ≤ tk f z i ∧ tk f z i < 6)) (h5 : cn W ≤ 5) (t45 : tk f z i = 45 → cn W = 5) (t40 : tk f z i = 40 → cn W = 5) (t11 : tk f z i = 11 → la W ≤ 3 → cn W = 5) (h : Ph (some (.int 0)) A L) : qC E mm_X7_begin (d + 2) [.ref 38] A L Ph := by
  have hn := hs.2.2.2.2.2.2.2
  have h4 := so_4 f z (tS f z i)
  have hse := tS_le (f := f) hz i
  have hez := (tE_le (f := f) hz (i + 1)).1
  have nm : ¬ (so f z (tS f z i) = 2 ∧ tE f z (i + 1) - tS f z i ≤ 4) := fun y => h1 ((nm_tk (i := i) hf).mp y)
  have hla7 : la W ≤ 7 := by
    cases W with
    | nil => exact Nat.zero_le _
    | cons c W => exact rkN_le c
  rcases wv_tk (i := i) hf with ⟨k, hk, ek, ew⟩ | ⟨ew, ek⟩
  · have k6 : 6 ≤ k := by
      rcases Nat.lt_or_ge k 6 with y | y
      · exact absurd (by rw [ek]; exact ⟨nI_le (a := 0) (Nat.zero_le k) (by omega), nI_lt (b := 6) y (by decide)⟩) h2
      · exact y
    by_cases k11 : k = 11
    · subst k11
      have ek : tk f z i = 11 := ek
      by_cases hla : la W ≤ 3
      · have h5' := t11 ek hla
        by_cases c2 : so f z (tS f z i) = 2
        · refine qC.enter (by decide) (Nat.le_of_ble_eq_true rfl) ?_
          refine r_aload_n dX7_begin_0 rfl ?_
          refine r_callV0 dX7_begin_1 lk_X7_152 (ly_38 hE) rfl (Nat.le_of_ble_eq_true rfl) (sp_word hE hz hs.1 hn ?_)
          refine r_rw (y := 11) ew ?_
          refine r_istore_n (loc' := [(1, .int 11), (0, .ref 38)]) dX7_begin_4 (by decide) rfl ?_
          refine r_iload_n dX7_begin_5 rfl ?_
          refine r_iconst (v := 0) dX7_begin_6 rfl ?_
          refine r_iconst (v := 5) dX7_begin_7 rfl ?_
          refine r_callS3 dX7_begin_8 lk_X7_78 (Nat.le_of_ble_eq_true rfl) (in_f 6 rfl rfl (by decide) (fun j hj e => absurd ((nI_eq (a := 11) (by omega) (by omega)).mp e) (by omega)) ?_)
          refine r_if_eq (tgt := 24) dX7_begin_11 (by decide) (fun _ => ?_) (fun hqz => absurd (by decide) hqz)
          refine r_aload_n dX7_begin_24 rfl ?_
          refine r_getI dX7_begin_25 fl_X7_131 (ly_38 hE) rfl ?_
          refine r_rw (y := 2) (by rw [hs.1.2.2.2.2, c2]; rfl) ?_
          refine r_iconst (v := 2) dX7_begin_28 rfl ?_
          refine r_icmp_ne (tgt := 55) dX7_begin_29 (by decide) (fun hqz => absurd (by decide) hqz) (fun _ => ?_)
          refine r_aload_n dX7_begin_32 rfl ?_
          refine r_getI dX7_begin_33 fl_X7_122 (ly_38 hE) rfl ?_
          refine r_rw (y := nI (tE f z (i + 1))) hs.1.2.2.1 ?_
          refine r_aload_n dX7_begin_36 rfl ?_
          refine r_getI dX7_begin_37 fl_X7_125 (ly_38 hE) rfl ?_
          refine r_rw (y := nI (tS f z i)) hs.1.2.2.2.1 ?_
          refine r_isub dX7_begin_40 ?_
          refine r_rw (y := nI (tE f z (i + 1) - tS f z i)) (pk_sub hse) ?_
          refine r_iconst (v := 4) dX7_begin_41 rfl ?_
          refine r_icmp_gt (tgt := 55) dX7_begin_42 (by decide) (fun _ => ?_) (fun hqz => absurd (nI_lt (a := 4) (by omega) (by omega)) hqz)
          refine r_aload_n dX7_begin_55 rfl ?_
          refine r_bipush (v := 40) dX7_begin_56 rfl ?_
          refine r_callV1 dX7_begin_58 lk_X7_155 (ly_38 hE) rfl (Nat.le_of_ble_eq_true rfl) (sp_isSign hE hz hf (b := 40) (by decide) rfl hs.1 (fun y => absurd ((nI_eq (a := 11) (b := 40) (by omega) (by decide)).mp (ek.symm.trans y)) (by omega)) (fun _ => ?_))
          refine r_if_eq (tgt := 68) dX7_begin_61 (by decide) (fun _ => ?_) (fun hqz => absurd (by decide) hqz)
          refine r_aload_n dX7_begin_68 rfl ?_
          refine r_bipush (v := 45) dX7_begin_69 rfl ?_
          refine r_callV1 dX7_begin_71 lk_X7_155 (ly_38 hE) rfl (Nat.le_of_ble_eq_true rfl) (sp_isSign hE hz hf (b := 45) (by decide) rfl hs.1 (fun y => absurd ((nI_eq (a := 11) (b := 45) (by omega) (by decide)).mp (ek.symm.trans y)) (by omega)) (fun _ => ?_))
          refine r_if_eq (tgt := 82) dX7_begin_74 (by decide) (fun _ => ?_) (fun hqz => absurd (by decide) hqz)
          refine r_iload_n dX7_begin_82 rfl ?_
          refine r_bipush (v := 11) dX7_begin_83 rfl ?_
          refine r_icmp_ne (tgt := 101) dX7_begin_85 (by decide) (fun hqz => absurd (by decide) hqz) (fun _ => ?_)
          refine r_aload_n dX7_begin_88 rfl ?_
          refine r_callV0 dX7_begin_89 lk_X7_143 (ly_38 hE) rfl (Nat.le_of_ble_eq_true rfl) (sp_last hE hl hs.2.2.2.2.1 hs.2.2.2.2.2.1 ?_)
          refine r_iconst (v := 3) dX7_begin_92 rfl ?_
          refine r_icmp_gt (tgt := 101) dX7_begin_93 (by decide) (fun hqz => absurd hqz (i_nle (nI_le (b := 3) hla (by decide)))) (fun _ => ?_)
          refine r_bipush (v := (-22)) dX7_begin_96 rfl ?_
          refine r_goto (tgt := 103) dX7_begin_98 (by decide) ?_
          refine r_istore_n (loc' := [(2, .int (-22)), (1, .int 11), (0, .ref 38)]) dX7_begin_103 (by decide) rfl ?_
          refine r_iload_n dX7_begin_104 rfl ?_
          refine r_bipush (v := (-25)) dX7_begin_105 rfl ?_
          refine r_icmp_eq (tgt := 118) dX7_begin_107 (by decide) (fun hqz => absurd hqz (by decide)) (fun _ => ?_)
          refine r_aload_n dX7_begin_110 rfl ?_
          refine r_getI dX7_begin_111 fl_X7_149 (ly_38 hE) rfl ?_
          refine r_rw (y := 5) (by rw [hs.2.1, h5']; rfl) ?_
          refine r_iconst (v := 5) dX7_begin_114 rfl ?_
          refine r_icmp_ne (tgt := 120) dX7_begin_115 (by decide) (fun hqz => absurd (by decide) hqz) (fun _ => ?_)
          refine r_iconst (v := 0) dX7_begin_118 rfl ?_
          refine r_ireturn dX7_begin_119 rfl rfl ?_
          exact h
        · refine qC.enter (by decide) (Nat.le_of_ble_eq_true rfl) ?_
          refine r_aload_n dX7_begin_0 rfl ?_
          refine r_callV0 dX7_begin_1 lk_X7_152 (ly_38 hE) rfl (Nat.le_of_ble_eq_true rfl) (sp_word hE hz hs.1 hn ?_)
          refine r_rw (y := 11) ew ?_
          refine r_istore_n (loc' := [(1, .int 11), (0, .ref 38)]) dX7_begin_4 (by decide) rfl ?_
          refine r_iload_n dX7_begin_5 rfl ?_
          refine r_iconst (v := 0) dX7_begin_6 rfl ?_
          refine r_iconst (v := 5) dX7_begin_7 rfl ?_
          refine r_callS3 dX7_begin_8 lk_X7_78 (Nat.le_of_ble_eq_true rfl) (in_f 6 rfl rfl (by decide) (fun j hj e => absurd ((nI_eq (a := 11) (by omega) (by omega)).mp e) (by omega)) ?_)
          refine r_if_eq (tgt := 24) dX7_begin_11 (by decide) (fun _ => ?_) (fun hqz => absurd (by decide) hqz)
          refine r_aload_n dX7_begin_24 rfl ?_
          refine r_getI dX7_begin_25 fl_X7_131 (ly_38 hE) rfl ?_
          refine r_rw (y := nI (so f z (tS f z i))) hs.1.2.2.2.2 ?_
          refine r_iconst (v := 2) dX7_begin_28 rfl ?_
          refine r_icmp_ne (tgt := 55) dX7_begin_29 (by decide) (fun _ => ?_) (fun hqz => absurd hqz (fun y => c2 ((nI_eq (b := 2) (by omega) (by decide)).mp y)))
          refine r_aload_n dX7_begin_55 rfl ?_
          refine r_bipush (v := 40) dX7_begin_56 rfl ?_
          refine r_callV1 dX7_begin_58 lk_X7_155 (ly_38 hE) rfl (Nat.le_of_ble_eq_true rfl) (sp_isSign hE hz hf (b := 40) (by decide) rfl hs.1 (fun y => absurd ((nI_eq (a := 11) (b := 40) (by omega) (by decide)).mp (ek.symm.trans y)) (by omega)) (fun _ => ?_))
          refine r_if_eq (tgt := 68) dX7_begin_61 (by decide) (fun _ => ?_) (fun hqz => absurd (by decide) hqz)
          refine r_aload_n dX7_begin_68 rfl ?_
          refine r_bipush (v := 45) dX7_begin_69 rfl ?_
          refine r_callV1 dX7_begin_71 lk_X7_155 (ly_38 hE) rfl (Nat.le_of_ble_eq_true rfl) (sp_isSign hE hz hf (b := 45) (by decide) rfl hs.1 (fun y => absurd ((nI_eq (a := 11) (b := 45) (by omega) (by decide)).mp (ek.symm.trans y)) (by omega)) (fun _ => ?_))
          refine r_if_eq (tgt := 82) dX7_begin_74 (by decide) (fun _ => ?_) (fun hqz => absurd (by decide) hqz)
          refine r_iload_n dX7_begin_82 rfl ?_
          refine r_bipush (v := 11) dX7_begin_83 rfl ?_
          refine r_icmp_ne (tgt := 101) dX7_begin_85 (by decide) (fun hqz => absurd (by decide) hqz) (fun _ => ?_)
          refine r_aload_n dX7_begin_88 rfl ?_
          refine r_callV0 dX7_begin_89 lk_X7_143 (ly_38 hE) rfl (Nat.le_of_ble_eq_true rfl) (sp_last hE hl hs.2.2.2.2.1 hs.2.2.2.2.2.1 ?_)
          refine r_iconst (v := 3) dX7_begin_92 rfl ?_
          refine r_icmp_gt (tgt := 101) dX7_begin_93 (by decide) (fun hqz => absurd hqz (i_nle (nI_le (b := 3) hla (by decide)))) (fun _ => ?_)
          refine r_bipush (v := (-22)) dX7_begin_96 rfl ?_
          refine r_goto (tgt := 103) dX7_begin_98 (by decide) ?_
          refine r_istore_n (loc' := [(2, .int (-22)), (1, .int 11), (0, .ref 38)]) dX7_begin_103 (by decide) rfl ?_
          refine r_iload_n dX7_begin_104 rfl ?_
          refine r_bipush (v := (-25)) dX7_begin_105 rfl ?_
          refine r_icmp_eq (tgt := 118) dX7_begin_107 (by decide) (fun hqz => absurd hqz (by decide)) (fun _ => ?_)
          refine r_aload_n dX7_begin_110 rfl ?_
          refine r_getI dX7_begin_111 fl_X7_149 (ly_38 hE) rfl ?_
          refine r_rw (y := 5) (by rw [hs.2.1, h5']; rfl) ?_
          refine r_iconst (v := 5) dX7_begin_114 rfl ?_
          refine r_icmp_ne (tgt := 120) dX7_begin_115 (by decide) (fun hqz => absurd (by decide) hqz) (fun _ => ?_)
          refine r_iconst (v := 0) dX7_begin_118 rfl ?_
          refine r_ireturn dX7_begin_119 rfl rfl ?_
          exact h
      · skip
        by_cases c2 : so f z (tS f z i) = 2
        · refine qC.enter (by decide) (Nat.le_of_ble_eq_true rfl) ?_
          refine r_aload_n dX7_begin_0 rfl ?_
          refine r_callV0 dX7_begin_1 lk_X7_152 (ly_38 hE) rfl (Nat.le_of_ble_eq_true rfl) (sp_word hE hz hs.1 hn ?_)
          refine r_rw (y := 11) ew ?_
          refine r_istore_n (loc' := [(1, .int 11), (0, .ref 38)]) dX7_begin_4 (by decide) rfl ?_
          refine r_iload_n dX7_begin_5 rfl ?_
          refine r_iconst (v := 0) dX7_begin_6 rfl ?_
          refine r_iconst (v := 5) dX7_begin_7 rfl ?_
          refine r_callS3 dX7_begin_8 lk_X7_78 (Nat.le_of_ble_eq_true rfl) (in_f 6 rfl rfl (by decide) (fun j hj e => absurd ((nI_eq (a := 11) (by omega) (by omega)).mp e) (by omega)) ?_)
          refine r_if_eq (tgt := 24) dX7_begin_11 (by decide) (fun _ => ?_) (fun hqz => absurd (by decide) hqz)
          refine r_aload_n dX7_begin_24 rfl ?_
          refine r_getI dX7_begin_25 fl_X7_131 (ly_38 hE) rfl ?_
          refine r_rw (y := 2) (by rw [hs.1.2.2.2.2, c2]; rfl) ?_
          refine r_iconst (v := 2) dX7_begin_28 rfl ?_
          refine r_icmp_ne (tgt := 55) dX7_begin_29 (by decide) (fun hqz => absurd (by decide) hqz) (fun _ => ?_)
          refine r_aload_n dX7_begin_32 rfl ?_
          refine r_getI dX7_begin_33 fl_X7_122 (ly_38 hE) rfl ?_
          refine r_rw (y := nI (tE f z (i + 1))) hs.1.2.2.1 ?_
          refine r_aload_n dX7_begin_36 rfl ?_
          refine r_getI dX7_begin_37 fl_X7_125 (ly_38 hE) rfl ?_
          refine r_rw (y := nI (tS f z i)) hs.1.2.2.2.1 ?_
          refine r_isub dX7_begin_40 ?_
          refine r_rw (y := nI (tE f z (i + 1) - tS f z i)) (pk_sub hse) ?_
          refine r_iconst (v := 4) dX7_begin_41 rfl ?_
          refine r_icmp_gt (tgt := 55) dX7_begin_42 (by decide) (fun _ => ?_) (fun hqz => absurd (nI_lt (a := 4) (by omega) (by omega)) hqz)
          refine r_aload_n dX7_begin_55 rfl ?_
          refine r_bipush (v := 40) dX7_begin_56 rfl ?_
          refine r_callV1 dX7_begin_58 lk_X7_155 (ly_38 hE) rfl (Nat.le_of_ble_eq_true rfl) (sp_isSign hE hz hf (b := 40) (by decide) rfl hs.1 (fun y => absurd ((nI_eq (a := 11) (b := 40) (by omega) (by decide)).mp (ek.symm.trans y)) (by omega)) (fun _ => ?_))
          refine r_if_eq (tgt := 68) dX7_begin_61 (by decide) (fun _ => ?_) (fun hqz => absurd (by decide) hqz)
          refine r_aload_n dX7_begin_68 rfl ?_
          refine r_bipush (v := 45) dX7_begin_69 rfl ?_
          refine r_callV1 dX7_begin_71 lk_X7_155 (ly_38 hE) rfl (Nat.le_of_ble_eq_true rfl) (sp_isSign hE hz hf (b := 45) (by decide) rfl hs.1 (fun y => absurd ((nI_eq (a := 11) (b := 45) (by omega) (by decide)).mp (ek.symm.trans y)) (by omega)) (fun _ => ?_))
          refine r_if_eq (tgt := 82) dX7_begin_74 (by decide) (fun _ => ?_) (fun hqz => absurd (by decide) hqz)
          refine r_iload_n dX7_begin_82 rfl ?_
          refine r_bipush (v := 11) dX7_begin_83 rfl ?_
          refine r_icmp_ne (tgt := 101) dX7_begin_85 (by decide) (fun hqz => absurd (by decide) hqz) (fun _ => ?_)
          refine r_aload_n dX7_begin_88 rfl ?_
          refine r_callV0 dX7_begin_89 lk_X7_143 (ly_38 hE) rfl (Nat.le_of_ble_eq_true rfl) (sp_last hE hl hs.2.2.2.2.1 hs.2.2.2.2.2.1 ?_)
          refine r_iconst (v := 3) dX7_begin_92 rfl ?_
          refine r_icmp_gt (tgt := 101) dX7_begin_93 (by decide) (fun _ => ?_) (fun hqz => absurd (nI_lt (a := 3) (by omega) (by omega)) hqz)
          refine r_bipush (v := (-25)) dX7_begin_101 rfl ?_
          refine r_istore_n (loc' := [(2, .int (-25)), (1, .int 11), (0, .ref 38)]) dX7_begin_103 (by decide) rfl ?_
          refine r_iload_n dX7_begin_104 rfl ?_
          refine r_bipush (v := (-25)) dX7_begin_105 rfl ?_
          refine r_icmp_eq (tgt := 118) dX7_begin_107 (by decide) (fun _ => ?_) (fun hqz => absurd (by decide) hqz)
          refine r_iconst (v := 0) dX7_begin_118 rfl ?_
          refine r_ireturn dX7_begin_119 rfl rfl ?_
          exact h
        · refine qC.enter (by decide) (Nat.le_of_ble_eq_true rfl) ?_
          refine r_aload_n dX7_begin_0 rfl ?_
          refine r_callV0 dX7_begin_1 lk_X7_152 (ly_38 hE) rfl (Nat.le_of_ble_eq_true rfl) (sp_word hE hz hs.1 hn ?_)
          refine r_rw (y := 11) ew ?_
          refine r_istore_n (loc' := [(1, .int 11), (0, .ref 38)]) dX7_begin_4 (by decide) rfl ?_
          refine r_iload_n dX7_begin_5 rfl ?_
          refine r_iconst (v := 0) dX7_begin_6 rfl ?_
          refine r_iconst (v := 5) dX7_begin_7 rfl ?_
          refine r_callS3 dX7_begin_8 lk_X7_78 (Nat.le_of_ble_eq_true rfl) (in_f 6 rfl rfl (by decide) (fun j hj e => absurd ((nI_eq (a := 11) (by omega) (by omega)).mp e) (by omega)) ?_)
          refine r_if_eq (tgt := 24) dX7_begin_11 (by decide) (fun _ => ?_) (fun hqz => absurd (by decide) hqz)
          refine r_aload_n dX7_begin_24 rfl ?_
          refine r_getI dX7_begin_25 fl_X7_131 (ly_38 hE) rfl ?_
          refine r_rw (y := nI (so f z (tS f z i))) hs.1.2.2.2.2 ?_
          refine r_iconst (v := 2) dX7_begin_28 rfl ?_
          refine r_icmp_ne (tgt := 55) dX7_begin_29 (by decide) (fun _ => ?_) (fun hqz => absurd hqz (fun y => c2 ((nI_eq (b := 2) (by omega) (by decide)).mp y)))
          refine r_aload_n dX7_begin_55 rfl ?_
          refine r_bipush (v := 40) dX7_begin_56 rfl ?_
          refine r_callV1 dX7_begin_58 lk_X7_155 (ly_38 hE) rfl (Nat.le_of_ble_eq_true rfl) (sp_isSign hE hz hf (b := 40) (by decide) rfl hs.1 (fun y => absurd ((nI_eq (a := 11) (b := 40) (by omega) (by decide)).mp (ek.symm.trans y)) (by omega)) (fun _ => ?_))
          refine r_if_eq (tgt := 68) dX7_begin_61 (by decide) (fun _ => ?_) (fun hqz => absurd (by decide) hqz)
          refine r_aload_n dX7_begin_68 rfl ?_
          refine r_bipush (v := 45) dX7_begin_69 rfl ?_
          refine r_callV1 dX7_begin_71 lk_X7_155 (ly_38 hE) rfl (Nat.le_of_ble_eq_true rfl) (sp_isSign hE hz hf (b := 45) (by decide) rfl hs.1 (fun y => absurd ((nI_eq (a := 11) (b := 45) (by omega) (by decide)).mp (ek.symm.trans y)) (by omega)) (fun _ => ?_))
          refine r_if_eq (tgt := 82) dX7_begin_74 (by decide) (fun _ => ?_) (fun hqz => absurd (by decide) hqz)
          refine r_iload_n dX7_begin_82 rfl ?_
          refine r_bipush (v := 11) dX7_begin_83 rfl ?_
          refine r_icmp_ne (tgt := 101) dX7_begin_85 (by decide) (fun hqz => absurd (by decide) hqz) (fun _ => ?_)
          refine r_aload_n dX7_begin_88 rfl ?_
          refine r_callV0 dX7_begin_89 lk_X7_143 (ly_38 hE) rfl (Nat.le_of_ble_eq_true rfl) (sp_last hE hl hs.2.2.2.2.1 hs.2.2.2.2.2.1 ?_)
          refine r_iconst (v := 3) dX7_begin_92 rfl ?_
          refine r_icmp_gt (tgt := 101) dX7_begin_93 (by decide) (fun _ => ?_) (fun hqz => absurd (nI_lt (a := 3) (by omega) (by omega)) hqz)
          refine r_bipush (v := (-25)) dX7_begin_101 rfl ?_
          refine r_istore_n (loc' := [(2, .int (-25)), (1, .int 11), (0, .ref 38)]) dX7_begin_103 (by decide) rfl ?_
          refine r_iload_n dX7_begin_104 rfl ?_
          refine r_bipush (v := (-25)) dX7_begin_105 rfl ?_
          refine r_icmp_eq (tgt := 118) dX7_begin_107 (by decide) (fun _ => ?_) (fun hqz => absurd (by decide) hqz)
          refine r_iconst (v := 0) dX7_begin_118 rfl ?_
          refine r_ireturn dX7_begin_119 rfl rfl ?_
          exact h
    · skip
      by_cases c2 : so f z (tS f z i) = 2
      · refine qC.enter (by decide) (Nat.le_of_ble_eq_true rfl) ?_
        refine r_aload_n dX7_begin_0 rfl ?_
        refine r_callV0 dX7_begin_1 lk_X7_152 (ly_38 hE) rfl (Nat.le_of_ble_eq_true rfl) (sp_word hE hz hs.1 hn ?_)
        refine r_rw (y := nI k) ew ?_
        refine r_istore_n (loc' := [(1, .int (nI k)), (0, .ref 38)]) dX7_begin_4 (by decide) rfl ?_
        refine r_iload_n dX7_begin_5 rfl ?_
        refine r_iconst (v := 0) dX7_begin_6 rfl ?_
        refine r_iconst (v := 5) dX7_begin_7 rfl ?_
        refine r_callS3 dX7_begin_8 lk_X7_78 (Nat.le_of_ble_eq_true rfl) (in_f 6 rfl rfl (by decide) (fun j hj e => absurd ((nI_eq (a := k) (by omega) (by omega)).mp e) (by omega)) ?_)
        refine r_if_eq (tgt := 24) dX7_begin_11 (by decide) (fun _ => ?_) (fun hqz => absurd (by decide) hqz)
        refine r_aload_n dX7_begin_24 rfl ?_
        refine r_getI dX7_begin_25 fl_X7_131 (ly_38 hE) rfl ?_
        refine r_rw (y := 2) (by rw [hs.1.2.2.2.2, c2]; rfl) ?_
        refine r_iconst (v := 2) dX7_begin_28 rfl ?_
        refine r_icmp_ne (tgt := 55) dX7_begin_29 (by decide) (fun hqz => absurd (by decide) hqz) (fun _ => ?_)
        refine r_aload_n dX7_begin_32 rfl ?_
        refine r_getI dX7_begin_33 fl_X7_122 (ly_38 hE) rfl ?_
        refine r_rw (y := nI (tE f z (i + 1))) hs.1.2.2.1 ?_
        refine r_aload_n dX7_begin_36 rfl ?_
        refine r_getI dX7_begin_37 fl_X7_125 (ly_38 hE) rfl ?_
        refine r_rw (y := nI (tS f z i)) hs.1.2.2.2.1 ?_
        refine r_isub dX7_begin_40 ?_
        refine r_rw (y := nI (tE f z (i + 1) - tS f z i)) (pk_sub hse) ?_
        refine r_iconst (v := 4) dX7_begin_41 rfl ?_
        refine r_icmp_gt (tgt := 55) dX7_begin_42 (by decide) (fun _ => ?_) (fun hqz => absurd (nI_lt (a := 4) (by omega) (by omega)) hqz)
        refine r_aload_n dX7_begin_55 rfl ?_
        refine r_bipush (v := 40) dX7_begin_56 rfl ?_
        refine r_callV1 dX7_begin_58 lk_X7_155 (ly_38 hE) rfl (Nat.le_of_ble_eq_true rfl) (sp_isSign hE hz hf (b := 40) (by decide) rfl hs.1 (fun y => absurd ((nI_eq (a := k) (b := 40) (by omega) (by decide)).mp (ek.symm.trans y)) (by omega)) (fun _ => ?_))
        refine r_if_eq (tgt := 68) dX7_begin_61 (by decide) (fun _ => ?_) (fun hqz => absurd (by decide) hqz)
        refine r_aload_n dX7_begin_68 rfl ?_
        refine r_bipush (v := 45) dX7_begin_69 rfl ?_
        refine r_callV1 dX7_begin_71 lk_X7_155 (ly_38 hE) rfl (Nat.le_of_ble_eq_true rfl) (sp_isSign hE hz hf (b := 45) (by decide) rfl hs.1 (fun y => absurd ((nI_eq (a := k) (b := 45) (by omega) (by decide)).mp (ek.symm.trans y)) (by omega)) (fun _ => ?_))
        refine r_if_eq (tgt := 82) dX7_begin_74 (by decide) (fun _ => ?_) (fun hqz => absurd (by decide) hqz)
        refine r_iload_n dX7_begin_82 rfl ?_
        refine r_bipush (v := 11) dX7_begin_83 rfl ?_
        refine r_icmp_ne (tgt := 101) dX7_begin_85 (by decide) (fun _ => ?_) (fun hqz => absurd hqz (fun y => k11 ((nI_eq (b := 11) (by omega) (by decide)).mp y)))
        refine r_bipush (v := (-25)) dX7_begin_101 rfl ?_
        refine r_istore_n (loc' := [(2, .int (-25)), (1, .int (nI k)), (0, .ref 38)]) dX7_begin_103 (by decide) rfl ?_
        refine r_iload_n dX7_begin_104 rfl ?_
        refine r_bipush (v := (-25)) dX7_begin_105 rfl ?_
        refine r_icmp_eq (tgt := 118) dX7_begin_107 (by decide) (fun _ => ?_) (fun hqz => absurd (by decide) hqz)
        refine r_iconst (v := 0) dX7_begin_118 rfl ?_
        refine r_ireturn dX7_begin_119 rfl rfl ?_
        exact h
      · refine qC.enter (by decide) (Nat.le_of_ble_eq_true rfl) ?_
        refine r_aload_n dX7_begin_0 rfl ?_
        refine r_callV0 dX7_begin_1 lk_X7_152 (ly_38 hE) rfl (Nat.le_of_ble_eq_true rfl) (sp_word hE hz hs.1 hn ?_)
        refine r_rw (y := nI k) ew ?_
        refine r_istore_n (loc' := [(1, .int (nI k)), (0, .ref 38)]) dX7_begin_4 (by decide) rfl ?_
        refine r_iload_n dX7_begin_5 rfl ?_
        refine r_iconst (v := 0) dX7_begin_6 rfl ?_
        refine r_iconst (v := 5) dX7_begin_7 rfl ?_
        refine r_callS3 dX7_begin_8 lk_X7_78 (Nat.le_of_ble_eq_true rfl) (in_f 6 rfl rfl (by decide) (fun j hj e => absurd ((nI_eq (a := k) (by omega) (by omega)).mp e) (by omega)) ?_)
        refine r_if_eq (tgt := 24) dX7_begin_11 (by decide) (fun _ => ?_) (fun hqz => absurd (by decide) hqz)
        refine r_aload_n dX7_begin_24 rfl ?_
        refine r_getI dX7_begin_25 fl_X7_131 (ly_38 hE) rfl ?_
        refine r_rw (y := nI (so f z (tS f z i))) hs.1.2.2.2.2 ?_
        refine r_iconst (v := 2) dX7_begin_28 rfl ?_
        refine r_icmp_ne (tgt := 55) dX7_begin_29 (by decide) (fun _ => ?_) (fun hqz => absurd hqz (fun y => c2 ((nI_eq (b := 2) (by omega) (by decide)).mp y)))
        refine r_aload_n dX7_begin_55 rfl ?_
        refine r_bipush (v := 40) dX7_begin_56 rfl ?_
        refine r_callV1 dX7_begin_58 lk_X7_155 (ly_38 hE) rfl (Nat.le_of_ble_eq_true rfl) (sp_isSign hE hz hf (b := 40) (by decide) rfl hs.1 (fun y => absurd ((nI_eq (a := k) (b := 40) (by omega) (by decide)).mp (ek.symm.trans y)) (by omega)) (fun _ => ?_))
        refine r_if_eq (tgt := 68) dX7_begin_61 (by decide) (fun _ => ?_) (fun hqz => absurd (by decide) hqz)
        refine r_aload_n dX7_begin_68 rfl ?_
        refine r_bipush (v := 45) dX7_begin_69 rfl ?_
        refine r_callV1 dX7_begin_71 lk_X7_155 (ly_38 hE) rfl (Nat.le_of_ble_eq_true rfl) (sp_isSign hE hz hf (b := 45) (by decide) rfl hs.1 (fun y => absurd ((nI_eq (a := k) (b := 45) (by omega) (by decide)).mp (ek.symm.trans y)) (by omega)) (fun _ => ?_))
        refine r_if_eq (tgt := 82) dX7_begin_74 (by decide) (fun _ => ?_) (fun hqz => absurd (by decide) hqz)
        refine r_iload_n dX7_begin_82 rfl ?_
        refine r_bipush (v := 11) dX7_begin_83 rfl ?_
        refine r_icmp_ne (tgt := 101) dX7_begin_85 (by decide) (fun _ => ?_) (fun hqz => absurd hqz (fun y => k11 ((nI_eq (b := 11) (by omega) (by decide)).mp y)))
        refine r_bipush (v := (-25)) dX7_begin_101 rfl ?_
        refine r_istore_n (loc' := [(2, .int (-25)), (1, .int (nI k)), (0, .ref 38)]) dX7_begin_103 (by decide) rfl ?_
        refine r_iload_n dX7_begin_104 rfl ?_
        refine r_bipush (v := (-25)) dX7_begin_105 rfl ?_
        refine r_icmp_eq (tgt := 118) dX7_begin_107 (by decide) (fun _ => ?_) (fun hqz => absurd (by decide) hqz)
        refine r_iconst (v := 0) dX7_begin_118 rfl ?_
        refine r_ireturn dX7_begin_119 rfl rfl ?_
        exact h
  · by_cases e40 : tk f z i = 40
    · have h5' := t40 e40
      by_cases c2 : so f z (tS f z i) = 2
      · refine qC.enter (by decide) (Nat.le_of_ble_eq_true rfl) ?_
        refine r_aload_n dX7_begin_0 rfl ?_
        refine r_callV0 dX7_begin_1 lk_X7_152 (ly_38 hE) rfl (Nat.le_of_ble_eq_true rfl) (sp_word hE hz hs.1 hn ?_)
        refine r_rw (y := -1) ew ?_
        refine r_istore_n (loc' := [(1, .int (-1)), (0, .ref 38)]) dX7_begin_4 (by decide) rfl ?_
        refine r_iload_n dX7_begin_5 rfl ?_
        refine r_iconst (v := 0) dX7_begin_6 rfl ?_
        refine r_iconst (v := 5) dX7_begin_7 rfl ?_
        refine r_callS3 dX7_begin_8 lk_X7_78 (Nat.le_of_ble_eq_true rfl) (in_f 6 rfl rfl (by decide) (fun j hj e => nI_nm1 (by omega) e.symm) ?_)
        refine r_if_eq (tgt := 24) dX7_begin_11 (by decide) (fun _ => ?_) (fun hqz => absurd (by decide) hqz)
        refine r_aload_n dX7_begin_24 rfl ?_
        refine r_getI dX7_begin_25 fl_X7_131 (ly_38 hE) rfl ?_
        refine r_rw (y := 2) (by rw [hs.1.2.2.2.2, c2]; rfl) ?_
        refine r_iconst (v := 2) dX7_begin_28 rfl ?_
        refine r_icmp_ne (tgt := 55) dX7_begin_29 (by decide) (fun hqz => absurd (by decide) hqz) (fun _ => ?_)
        refine r_aload_n dX7_begin_32 rfl ?_
        refine r_getI dX7_begin_33 fl_X7_122 (ly_38 hE) rfl ?_
        refine r_rw (y := nI (tE f z (i + 1))) hs.1.2.2.1 ?_
        refine r_aload_n dX7_begin_36 rfl ?_
        refine r_getI dX7_begin_37 fl_X7_125 (ly_38 hE) rfl ?_
        refine r_rw (y := nI (tS f z i)) hs.1.2.2.2.1 ?_
        refine r_isub dX7_begin_40 ?_
        refine r_rw (y := nI (tE f z (i + 1) - tS f z i)) (pk_sub hse) ?_
        refine r_iconst (v := 4) dX7_begin_41 rfl ?_
        refine r_icmp_gt (tgt := 55) dX7_begin_42 (by decide) (fun _ => ?_) (fun hqz => absurd (nI_lt (a := 4) (by omega) (by omega)) hqz)
        refine r_aload_n dX7_begin_55 rfl ?_
        refine r_bipush (v := 40) dX7_begin_56 rfl ?_
        refine r_callV1 dX7_begin_58 lk_X7_155 (ly_38 hE) rfl (Nat.le_of_ble_eq_true rfl) (sp_isSign hE hz hf (b := 40) (by decide) rfl hs.1 (fun _ => ?_) (fun y => absurd e40 y))
        refine r_if_eq (tgt := 68) dX7_begin_61 (by decide) (fun hqz => absurd hqz (by decide)) (fun _ => ?_)
        refine r_iconst (v := 0) dX7_begin_64 rfl ?_
        refine r_goto (tgt := 103) dX7_begin_65 (by decide) ?_
        refine r_istore_n (loc' := [(2, .int 0), (1, .int (-1)), (0, .ref 38)]) dX7_begin_103 (by decide) rfl ?_
        refine r_iload_n dX7_begin_104 rfl ?_
        refine r_bipush (v := (-25)) dX7_begin_105 rfl ?_
        refine r_icmp_eq (tgt := 118) dX7_begin_107 (by decide) (fun hqz => absurd hqz (by decide)) (fun _ => ?_)
        refine r_aload_n dX7_begin_110 rfl ?_
        refine r_getI dX7_begin_111 fl_X7_149 (ly_38 hE) rfl ?_
        refine r_rw (y := 5) (by rw [hs.2.1, h5']; rfl) ?_
        refine r_iconst (v := 5) dX7_begin_114 rfl ?_
        refine r_icmp_ne (tgt := 120) dX7_begin_115 (by decide) (fun hqz => absurd (by decide) hqz) (fun _ => ?_)
        refine r_iconst (v := 0) dX7_begin_118 rfl ?_
        refine r_ireturn dX7_begin_119 rfl rfl ?_
        exact h
      · refine qC.enter (by decide) (Nat.le_of_ble_eq_true rfl) ?_
        refine r_aload_n dX7_begin_0 rfl ?_
        refine r_callV0 dX7_begin_1 lk_X7_152 (ly_38 hE) rfl (Nat.le_of_ble_eq_true rfl) (sp_word hE hz hs.1 hn ?_)
        refine r_rw (y := -1) ew ?_
        refine r_istore_n (loc' := [(1, .int (-1)), (0, .ref 38)]) dX7_begin_4 (by decide) rfl ?_
        refine r_iload_n dX7_begin_5 rfl ?_
        refine r_iconst (v := 0) dX7_begin_6 rfl ?_
        refine r_iconst (v := 5) dX7_begin_7 rfl ?_
        refine r_callS3 dX7_begin_8 lk_X7_78 (Nat.le_of_ble_eq_true rfl) (in_f 6 rfl rfl (by decide) (fun j hj e => nI_nm1 (by omega) e.symm) ?_)
        refine r_if_eq (tgt := 24) dX7_begin_11 (by decide) (fun _ => ?_) (fun hqz => absurd (by decide) hqz)
        refine r_aload_n dX7_begin_24 rfl ?_
        refine r_getI dX7_begin_25 fl_X7_131 (ly_38 hE) rfl ?_
        refine r_rw (y := nI (so f z (tS f z i))) hs.1.2.2.2.2 ?_
        refine r_iconst (v := 2) dX7_begin_28 rfl ?_
        refine r_icmp_ne (tgt := 55) dX7_begin_29 (by decide) (fun _ => ?_) (fun hqz => absurd hqz (fun y => c2 ((nI_eq (b := 2) (by omega) (by decide)).mp y)))
        refine r_aload_n dX7_begin_55 rfl ?_
        refine r_bipush (v := 40) dX7_begin_56 rfl ?_
        refine r_callV1 dX7_begin_58 lk_X7_155 (ly_38 hE) rfl (Nat.le_of_ble_eq_true rfl) (sp_isSign hE hz hf (b := 40) (by decide) rfl hs.1 (fun _ => ?_) (fun y => absurd e40 y))
        refine r_if_eq (tgt := 68) dX7_begin_61 (by decide) (fun hqz => absurd hqz (by decide)) (fun _ => ?_)
        refine r_iconst (v := 0) dX7_begin_64 rfl ?_
        refine r_goto (tgt := 103) dX7_begin_65 (by decide) ?_
        refine r_istore_n (loc' := [(2, .int 0), (1, .int (-1)), (0, .ref 38)]) dX7_begin_103 (by decide) rfl ?_
        refine r_iload_n dX7_begin_104 rfl ?_
        refine r_bipush (v := (-25)) dX7_begin_105 rfl ?_
        refine r_icmp_eq (tgt := 118) dX7_begin_107 (by decide) (fun hqz => absurd hqz (by decide)) (fun _ => ?_)
        refine r_aload_n dX7_begin_110 rfl ?_
        refine r_getI dX7_begin_111 fl_X7_149 (ly_38 hE) rfl ?_
        refine r_rw (y := 5) (by rw [hs.2.1, h5']; rfl) ?_
        refine r_iconst (v := 5) dX7_begin_114 rfl ?_
        refine r_icmp_ne (tgt := 120) dX7_begin_115 (by decide) (fun hqz => absurd (by decide) hqz) (fun _ => ?_)
        refine r_iconst (v := 0) dX7_begin_118 rfl ?_
        refine r_ireturn dX7_begin_119 rfl rfl ?_
        exact h
    · by_cases e45 : tk f z i = 45
      · have h5' := t45 e45
        by_cases c2 : so f z (tS f z i) = 2
        · refine qC.enter (by decide) (Nat.le_of_ble_eq_true rfl) ?_
          refine r_aload_n dX7_begin_0 rfl ?_
          refine r_callV0 dX7_begin_1 lk_X7_152 (ly_38 hE) rfl (Nat.le_of_ble_eq_true rfl) (sp_word hE hz hs.1 hn ?_)
          refine r_rw (y := -1) ew ?_
          refine r_istore_n (loc' := [(1, .int (-1)), (0, .ref 38)]) dX7_begin_4 (by decide) rfl ?_
          refine r_iload_n dX7_begin_5 rfl ?_
          refine r_iconst (v := 0) dX7_begin_6 rfl ?_
          refine r_iconst (v := 5) dX7_begin_7 rfl ?_
          refine r_callS3 dX7_begin_8 lk_X7_78 (Nat.le_of_ble_eq_true rfl) (in_f 6 rfl rfl (by decide) (fun j hj e => nI_nm1 (by omega) e.symm) ?_)
          refine r_if_eq (tgt := 24) dX7_begin_11 (by decide) (fun _ => ?_) (fun hqz => absurd (by decide) hqz)
          refine r_aload_n dX7_begin_24 rfl ?_
          refine r_getI dX7_begin_25 fl_X7_131 (ly_38 hE) rfl ?_
          refine r_rw (y := 2) (by rw [hs.1.2.2.2.2, c2]; rfl) ?_
          refine r_iconst (v := 2) dX7_begin_28 rfl ?_
          refine r_icmp_ne (tgt := 55) dX7_begin_29 (by decide) (fun hqz => absurd (by decide) hqz) (fun _ => ?_)
          refine r_aload_n dX7_begin_32 rfl ?_
          refine r_getI dX7_begin_33 fl_X7_122 (ly_38 hE) rfl ?_
          refine r_rw (y := nI (tE f z (i + 1))) hs.1.2.2.1 ?_
          refine r_aload_n dX7_begin_36 rfl ?_
          refine r_getI dX7_begin_37 fl_X7_125 (ly_38 hE) rfl ?_
          refine r_rw (y := nI (tS f z i)) hs.1.2.2.2.1 ?_
          refine r_isub dX7_begin_40 ?_
          refine r_rw (y := nI (tE f z (i + 1) - tS f z i)) (pk_sub hse) ?_
          refine r_iconst (v := 4) dX7_begin_41 rfl ?_
          refine r_icmp_gt (tgt := 55) dX7_begin_42 (by decide) (fun _ => ?_) (fun hqz => absurd (nI_lt (a := 4) (by omega) (by omega)) hqz)
          refine r_aload_n dX7_begin_55 rfl ?_
          refine r_bipush (v := 40) dX7_begin_56 rfl ?_
          refine r_callV1 dX7_begin_58 lk_X7_155 (ly_38 hE) rfl (Nat.le_of_ble_eq_true rfl) (sp_isSign hE hz hf (b := 40) (by decide) rfl hs.1 (fun y => absurd y e40) (fun _ => ?_))
          refine r_if_eq (tgt := 68) dX7_begin_61 (by decide) (fun _ => ?_) (fun hqz => absurd (by decide) hqz)
          refine r_aload_n dX7_begin_68 rfl ?_
          refine r_bipush (v := 45) dX7_begin_69 rfl ?_
          refine r_callV1 dX7_begin_71 lk_X7_155 (ly_38 hE) rfl (Nat.le_of_ble_eq_true rfl) (sp_isSign hE hz hf (b := 45) (by decide) rfl hs.1 (fun _ => ?_) (fun y => absurd e45 y))
          refine r_if_eq (tgt := 82) dX7_begin_74 (by decide) (fun hqz => absurd hqz (by decide)) (fun _ => ?_)
          refine r_bipush (v := (-28)) dX7_begin_77 rfl ?_
          refine r_goto (tgt := 103) dX7_begin_79 (by decide) ?_
          refine r_istore_n (loc' := [(2, .int (-28)), (1, .int (-1)), (0, .ref 38)]) dX7_begin_103 (by decide) rfl ?_
          refine r_iload_n dX7_begin_104 rfl ?_
          refine r_bipush (v := (-25)) dX7_begin_105 rfl ?_
          refine r_icmp_eq (tgt := 118) dX7_begin_107 (by decide) (fun hqz => absurd hqz (by decide)) (fun _ => ?_)
          refine r_aload_n dX7_begin_110 rfl ?_
          refine r_getI dX7_begin_111 fl_X7_149 (ly_38 hE) rfl ?_
          refine r_rw (y := 5) (by rw [hs.2.1, h5']; rfl) ?_
          refine r_iconst (v := 5) dX7_begin_114 rfl ?_
          refine r_icmp_ne (tgt := 120) dX7_begin_115 (by decide) (fun hqz => absurd (by decide) hqz) (fun _ => ?_)
          refine r_iconst (v := 0) dX7_begin_118 rfl ?_
          refine r_ireturn dX7_begin_119 rfl rfl ?_
          exact h
        · refine qC.enter (by decide) (Nat.le_of_ble_eq_true rfl) ?_
          refine r_aload_n dX7_begin_0 rfl ?_
          refine r_callV0 dX7_begin_1 lk_X7_152 (ly_38 hE) rfl (Nat.le_of_ble_eq_true rfl) (sp_word hE hz hs.1 hn ?_)
          refine r_rw (y := -1) ew ?_
          refine r_istore_n (loc' := [(1, .int (-1)), (0, .ref 38)]) dX7_begin_4 (by decide) rfl ?_
          refine r_iload_n dX7_begin_5 rfl ?_
          refine r_iconst (v := 0) dX7_begin_6 rfl ?_
          refine r_iconst (v := 5) dX7_begin_7 rfl ?_
          refine r_callS3 dX7_begin_8 lk_X7_78 (Nat.le_of_ble_eq_true rfl) (in_f 6 rfl rfl (by decide) (fun j hj e => nI_nm1 (by omega) e.symm) ?_)
          refine r_if_eq (tgt := 24) dX7_begin_11 (by decide) (fun _ => ?_) (fun hqz => absurd (by decide) hqz)
          refine r_aload_n dX7_begin_24 rfl ?_
          refine r_getI dX7_begin_25 fl_X7_131 (ly_38 hE) rfl ?_
          refine r_rw (y := nI (so f z (tS f z i))) hs.1.2.2.2.2 ?_
          refine r_iconst (v := 2) dX7_begin_28 rfl ?_
          refine r_icmp_ne (tgt := 55) dX7_begin_29 (by decide) (fun _ => ?_) (fun hqz => absurd hqz (fun y => c2 ((nI_eq (b := 2) (by omega) (by decide)).mp y)))
          refine r_aload_n dX7_begin_55 rfl ?_
          refine r_bipush (v := 40) dX7_begin_56 rfl ?_
          refine r_callV1 dX7_begin_58 lk_X7_155 (ly_38 hE) rfl (Nat.le_of_ble_eq_true rfl) (sp_isSign hE hz hf (b := 40) (by decide) rfl hs.1 (fun y => absurd y e40) (fun _ => ?_))
          refine r_if_eq (tgt := 68) dX7_begin_61 (by decide) (fun _ => ?_) (fun hqz => absurd (by decide) hqz)
          refine r_aload_n dX7_begin_68 rfl ?_
          refine r_bipush (v := 45) dX7_begin_69 rfl ?_
          refine r_callV1 dX7_begin_71 lk_X7_155 (ly_38 hE) rfl (Nat.le_of_ble_eq_true rfl) (sp_isSign hE hz hf (b := 45) (by decide) rfl hs.1 (fun _ => ?_) (fun y => absurd e45 y))
          refine r_if_eq (tgt := 82) dX7_begin_74 (by decide) (fun hqz => absurd hqz (by decide)) (fun _ => ?_)
          refine r_bipush (v := (-28)) dX7_begin_77 rfl ?_
          refine r_goto (tgt := 103) dX7_begin_79 (by decide) ?_
          refine r_istore_n (loc' := [(2, .int (-28)), (1, .int (-1)), (0, .ref 38)]) dX7_begin_103 (by decide) rfl ?_
          refine r_iload_n dX7_begin_104 rfl ?_
          refine r_bipush (v := (-25)) dX7_begin_105 rfl ?_
          refine r_icmp_eq (tgt := 118) dX7_begin_107 (by decide) (fun hqz => absurd hqz (by decide)) (fun _ => ?_)
          refine r_aload_n dX7_begin_110 rfl ?_
          refine r_getI dX7_begin_111 fl_X7_149 (ly_38 hE) rfl ?_
          refine r_rw (y := 5) (by rw [hs.2.1, h5']; rfl) ?_
          refine r_iconst (v := 5) dX7_begin_114 rfl ?_
          refine r_icmp_ne (tgt := 120) dX7_begin_115 (by decide) (fun hqz => absurd (by decide) hqz) (fun _ => ?_)
          refine r_iconst (v := 0) dX7_begin_118 rfl ?_
          refine r_ireturn dX7_begin_119 rfl rfl ?_
          exact h
      · skip
        by_cases c2 : so f z (tS f z i) = 2
        · refine qC.enter (by decide) (Nat.le_of_ble_eq_true rfl) ?_
          refine r_aload_n dX7_begin_0 rfl ?_
          refine r_callV0 dX7_begin_1 lk_X7_152 (ly_38 hE) rfl (Nat.le_of_ble_eq_true rfl) (sp_word hE hz hs.1 hn ?_)
          refine r_rw (y := -1) ew ?_
          refine r_istore_n (loc' := [(1, .int (-1)), (0, .ref 38)]) dX7_begin_4 (by decide) rfl ?_
          refine r_iload_n dX7_begin_5 rfl ?_
          refine r_iconst (v := 0) dX7_begin_6 rfl ?_
          refine r_iconst (v := 5) dX7_begin_7 rfl ?_
          refine r_callS3 dX7_begin_8 lk_X7_78 (Nat.le_of_ble_eq_true rfl) (in_f 6 rfl rfl (by decide) (fun j hj e => nI_nm1 (by omega) e.symm) ?_)
          refine r_if_eq (tgt := 24) dX7_begin_11 (by decide) (fun _ => ?_) (fun hqz => absurd (by decide) hqz)
          refine r_aload_n dX7_begin_24 rfl ?_
          refine r_getI dX7_begin_25 fl_X7_131 (ly_38 hE) rfl ?_
          refine r_rw (y := 2) (by rw [hs.1.2.2.2.2, c2]; rfl) ?_
          refine r_iconst (v := 2) dX7_begin_28 rfl ?_
          refine r_icmp_ne (tgt := 55) dX7_begin_29 (by decide) (fun hqz => absurd (by decide) hqz) (fun _ => ?_)
          refine r_aload_n dX7_begin_32 rfl ?_
          refine r_getI dX7_begin_33 fl_X7_122 (ly_38 hE) rfl ?_
          refine r_rw (y := nI (tE f z (i + 1))) hs.1.2.2.1 ?_
          refine r_aload_n dX7_begin_36 rfl ?_
          refine r_getI dX7_begin_37 fl_X7_125 (ly_38 hE) rfl ?_
          refine r_rw (y := nI (tS f z i)) hs.1.2.2.2.1 ?_
          refine r_isub dX7_begin_40 ?_
          refine r_rw (y := nI (tE f z (i + 1) - tS f z i)) (pk_sub hse) ?_
          refine r_iconst (v := 4) dX7_begin_41 rfl ?_
          refine r_icmp_gt (tgt := 55) dX7_begin_42 (by decide) (fun _ => ?_) (fun hqz => absurd (nI_lt (a := 4) (by omega) (by omega)) hqz)
          refine r_aload_n dX7_begin_55 rfl ?_
          refine r_bipush (v := 40) dX7_begin_56 rfl ?_
          refine r_callV1 dX7_begin_58 lk_X7_155 (ly_38 hE) rfl (Nat.le_of_ble_eq_true rfl) (sp_isSign hE hz hf (b := 40) (by decide) rfl hs.1 (fun y => absurd y e40) (fun _ => ?_))
          refine r_if_eq (tgt := 68) dX7_begin_61 (by decide) (fun _ => ?_) (fun hqz => absurd (by decide) hqz)
          refine r_aload_n dX7_begin_68 rfl ?_
          refine r_bipush (v := 45) dX7_begin_69 rfl ?_
          refine r_callV1 dX7_begin_71 lk_X7_155 (ly_38 hE) rfl (Nat.le_of_ble_eq_true rfl) (sp_isSign hE hz hf (b := 45) (by decide) rfl hs.1 (fun y => absurd y e45) (fun _ => ?_))
          refine r_if_eq (tgt := 82) dX7_begin_74 (by decide) (fun _ => ?_) (fun hqz => absurd (by decide) hqz)
          refine r_iload_n dX7_begin_82 rfl ?_
          refine r_bipush (v := 11) dX7_begin_83 rfl ?_
          refine r_icmp_ne (tgt := 101) dX7_begin_85 (by decide) (fun _ => ?_) (fun hqz => absurd hqz (by decide))
          refine r_bipush (v := (-25)) dX7_begin_101 rfl ?_
          refine r_istore_n (loc' := [(2, .int (-25)), (1, .int (-1)), (0, .ref 38)]) dX7_begin_103 (by decide) rfl ?_
          refine r_iload_n dX7_begin_104 rfl ?_
          refine r_bipush (v := (-25)) dX7_begin_105 rfl ?_
          refine r_icmp_eq (tgt := 118) dX7_begin_107 (by decide) (fun _ => ?_) (fun hqz => absurd (by decide) hqz)
          refine r_iconst (v := 0) dX7_begin_118 rfl ?_
          refine r_ireturn dX7_begin_119 rfl rfl ?_
          exact h
        · refine qC.enter (by decide) (Nat.le_of_ble_eq_true rfl) ?_
          refine r_aload_n dX7_begin_0 rfl ?_
          refine r_callV0 dX7_begin_1 lk_X7_152 (ly_38 hE) rfl (Nat.le_of_ble_eq_true rfl) (sp_word hE hz hs.1 hn ?_)
          refine r_rw (y := -1) ew ?_
          refine r_istore_n (loc' := [(1, .int (-1)), (0, .ref 38)]) dX7_begin_4 (by decide) rfl ?_
          refine r_iload_n dX7_begin_5 rfl ?_
          refine r_iconst (v := 0) dX7_begin_6 rfl ?_
          refine r_iconst (v := 5) dX7_begin_7 rfl ?_
          refine r_callS3 dX7_begin_8 lk_X7_78 (Nat.le_of_ble_eq_true rfl) (in_f 6 rfl rfl (by decide) (fun j hj e => nI_nm1 (by omega) e.symm) ?_)
          refine r_if_eq (tgt := 24) dX7_begin_11 (by decide) (fun _ => ?_) (fun hqz => absurd (by decide) hqz)
          refine r_aload_n dX7_begin_24 rfl ?_
          refine r_getI dX7_begin_25 fl_X7_131 (ly_38 hE) rfl ?_
          refine r_rw (y := nI (so f z (tS f z i))) hs.1.2.2.2.2 ?_
          refine r_iconst (v := 2) dX7_begin_28 rfl ?_
          refine r_icmp_ne (tgt := 55) dX7_begin_29 (by decide) (fun _ => ?_) (fun hqz => absurd hqz (fun y => c2 ((nI_eq (b := 2) (by omega) (by decide)).mp y)))
          refine r_aload_n dX7_begin_55 rfl ?_
          refine r_bipush (v := 40) dX7_begin_56 rfl ?_
          refine r_callV1 dX7_begin_58 lk_X7_155 (ly_38 hE) rfl (Nat.le_of_ble_eq_true rfl) (sp_isSign hE hz hf (b := 40) (by decide) rfl hs.1 (fun y => absurd y e40) (fun _ => ?_))
          refine r_if_eq (tgt := 68) dX7_begin_61 (by decide) (fun _ => ?_) (fun hqz => absurd (by decide) hqz)
          refine r_aload_n dX7_begin_68 rfl ?_
          refine r_bipush (v := 45) dX7_begin_69 rfl ?_
          refine r_callV1 dX7_begin_71 lk_X7_155 (ly_38 hE) rfl (Nat.le_of_ble_eq_true rfl) (sp_isSign hE hz hf (b := 45) (by decide) rfl hs.1 (fun y => absurd y e45) (fun _ => ?_))
          refine r_if_eq (tgt := 82) dX7_begin_74 (by decide) (fun _ => ?_) (fun hqz => absurd (by decide) hqz)
          refine r_iload_n dX7_begin_82 rfl ?_
          refine r_bipush (v := 11) dX7_begin_83 rfl ?_
          refine r_icmp_ne (tgt := 101) dX7_begin_85 (by decide) (fun _ => ?_) (fun hqz => absurd hqz (by decide))
          refine r_bipush (v := (-25)) dX7_begin_101 rfl ?_
          refine r_istore_n (loc' := [(2, .int (-25)), (1, .int (-1)), (0, .ref 38)]) dX7_begin_103 (by decide) rfl ?_
          refine r_iload_n dX7_begin_104 rfl ?_
          refine r_bipush (v := (-25)) dX7_begin_105 rfl ?_
          refine r_icmp_eq (tgt := 118) dX7_begin_107 (by decide) (fun _ => ?_) (fun hqz => absurd (by decide) hqz)
          refine r_iconst (v := 0) dX7_begin_118 rfl ?_
          refine r_ireturn dX7_begin_119 rfl rfl ?_
          exact h
end MPAR
