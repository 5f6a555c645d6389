/-! a pair more; the tape; scratch -/
def addN (f : Nat → Int32) (n k q a : Nat) : Nat → Int32 := upd (upd (upd (upd (upd f (40 + 4 * n) (nI k)) (41 + 4 * n) (nI q)) (42 + 4 * n) (nI a)) (43 + 4 * n) 0) 60 (nI (n + 1))
theorem addN_lo {f : Nat → Int32} {n k q a i : Nat} (h : i < 40 + 4 * n) : addN f n k q a i = if i = 60 then nI (n + 1) else f i := by
  unfold addN
  by_cases e : i = 60
  · rw [if_pos e, e, upd_eq]
  · rw [if_neg e, u_no e, u_no (by omega), u_no (by omega), u_no (by omega), u_no (by omega)]
theorem addN_hi {f : Nat → Int32} {n k q a i : Nat} (hn : n < 5) (h : 60 < i) : addN f n k q a i = f i := by
  unfold addN
  rw [u_no (by omega), u_no (by omega), u_no (by omega), u_no (by omega), u_no (by omega)]
theorem addN_60 {f : Nat → Int32} {n k q a : Nat} : addN f n k q a 60 = nI (n + 1) := upd_eq
theorem addN_0 {f : Nat → Int32} {n k q a : Nat} (hn : n < 5) : addN f n k q a (40 + 4 * n) = nI k := by
  unfold addN
  rw [u_no (by omega), u_no (by omega), u_no (by omega), u_no (by omega), upd_eq]
theorem addN_1 {f : Nat → Int32} {n k q a : Nat} (hn : n < 5) : addN f n k q a (41 + 4 * n) = nI q := by
  unfold addN
  rw [u_no (by omega), u_no (by omega), u_no (by omega), upd_eq]
theorem addN_2 {f : Nat → Int32} {n k q a : Nat} (hn : n < 5) : addN f n k q a (42 + 4 * n) = nI a := by
  unfold addN
  rw [u_no (by omega), u_no (by omega), upd_eq]
theorem addN_3 {f : Nat → Int32} {n k q a : Nat} (hn : n < 5) : addN f n k q a (43 + 4 * n) = 0 := by
  unfold addN
  rw [u_no (by omega), upd_eq]
theorem WfN.add {f : Nat → Int32} {T n k q a : Nat} (hN : WfN f T n) (hn : n < 5) (hk : k < 6) (hq : q < 10) (ha : a < 100) : WfN (addN f n k q a) T (n + 1) := by
  obtain ⟨h1, h2, h3, h4, h5, h6⟩ := hN
  refine ⟨hn, addN_60, by rw [addN_hi hn (by decide)]; exact h3, by rw [addN_hi hn (by decide)]; exact h4, fun p hp => ?_, fun i hi => by rw [addN_lo (by omega), if_neg (by omega)]; exact h6 i hi⟩
  by_cases e : p = n
  · subst e
    rw [addN_0 hn, addN_1 hn, addN_2 hn, addN_3 hn]
    exact ⟨⟨k, hk, rfl⟩, ⟨q, hq, rfl⟩, ⟨a, ha, rfl⟩, ⟨0, by decide, rfl⟩⟩
  · rw [addN_lo (by omega), addN_lo (by omega), addN_lo (by omega), addN_lo (by omega), if_neg (by omega), if_neg (by omega), if_neg (by omega), if_neg (by omega)]
    exact h5 p (by omega)
/-- the class's rows with a pair more -/
def addC (A : mA) (n k q a : Nat) : mA := s2 (s2 (s2 (s2 (s2 A 13 n (nI k)) 14 n (nI q)) 15 n (nI a)) 16 n 0) 1 5 (nI (n + 1))
theorem addC_fr {A : mA} {n k q a : Nat} : Fr [1, 12, 13, 14, 15, 16] A (addC A n k q a) := (Fr.s2 (by decide)).tr ((Fr.s2 (by decide)).tr ((Fr.s2 (by decide)).tr ((Fr.s2 (by decide)).tr (Fr.s2 (by decide)))))
theorem RCn.add {A : mA} {f : Nat → Int32} {n k q a : Nat} (h : RCn A 1 12 f n) (hn : n < 5) : RCn (addC A n k q a) 1 12 (addN f n k q a) (n + 1) := by
  obtain ⟨h1, h2, h3, h4, h5⟩ := h
  unfold addC
  refine ⟨fun i hi => ?_, fun p hp => ?_, ?_, ?_, ?_⟩
  · rw [addN_lo (by omega), if_neg (by omega), s2_ne (by decide), s2_ne (by decide), s2_ne (by decide), s2_ne (by decide), s2_ne (by decide)]
    exact h1 i hi
  · by_cases e : p = n
    · subst e
      rw [addN_0 hn, addN_1 hn, addN_2 hn, addN_3 hn]
      refine ⟨?_, ?_, ?_, ?_⟩
      · rw [s2_ne (by decide), s2_ne (by decide), s2_ne (by decide), s2_ne (by decide), s2_same]
      · rw [s2_ne (by decide), s2_ne (by decide), s2_ne (by decide), s2_same]
      · rw [s2_ne (by decide), s2_ne (by decide), s2_same]
      · rw [s2_ne (by decide), s2_same]
    · rw [addN_lo (by omega), addN_lo (by omega), addN_lo (by omega), addN_lo (by omega), if_neg (by omega), if_neg (by omega), if_neg (by omega), if_neg (by omega)]
      obtain ⟨a1, a2, a3, a4⟩ := h2 p (by omega)
      refine ⟨?_, ?_, ?_, ?_⟩
      · rw [s2_ne (by decide), s2_ne (by decide), s2_ne (by decide), s2_ne (by decide), s2_nj (fun _ => e)]; exact a1
      · rw [s2_ne (by decide), s2_ne (by decide), s2_ne (by decide), s2_nj (fun _ => e), s2_ne (by decide)]; exact a2
      · rw [s2_ne (by decide), s2_ne (by decide), s2_nj (fun _ => e), s2_ne (by decide), s2_ne (by decide)]; exact a3
      · rw [s2_ne (by decide), s2_nj (fun _ => e), s2_ne (by decide), s2_ne (by decide), s2_ne (by decide)]; exact a4
  · rw [s2_same, addN_60]
  · rw [addN_hi hn (by decide), s2_nj (fun _ => by decide), s2_ne (by decide), s2_ne (by decide), s2_ne (by decide), s2_ne (by decide)]
    exact h4
  · rw [addN_hi hn (by decide), s2_nj (fun _ => by decide), s2_ne (by decide), s2_ne (by decide), s2_ne (by decide), s2_ne (by decide)]
    exact h5
/-- the tape, a byte more -/
def fedS (S : mA) (z b : Nat) : mA := s2 (s2 S 41 z (nI b)) 38 4 (nI (z + 1))
theorem WfS.fed {S : mA} {T n z b : Nat} (h : WfS S T n z) (hz : z < 160) (hb : b < 256) : WfS (fedS S z b) T n (z + 1) := by
  obtain ⟨h1, h2, h3, h4, h5, h6, h7, h8⟩ := h
  have e : ∀ k, k ≠ 38 → k ≠ 41 → fedS S z b k = S k := fun k a c => by unfold fedS; rw [s2_ne a, s2_ne c]
  have e38 : ∀ j, j ≠ 4 → fedS S z b 38 j = S 38 j := fun j a => by unfold fedS; rw [s2_nj (fun _ => a), s2_ne (by decide)]
  refine ⟨h1, h2, by rw [e38 _ (by decide)]; exact h3, fun r hr => ?_, by rw [e _ (by decide) (by decide)]; exact h5, by rw [e38 _ (by decide), e _ (by decide) (by decide)]; exact h6, ⟨hz, by unfold fedS; rw [s2_same], fun i hi => ?_⟩, by rw [e _ (by decide) (by decide), e _ (by decide) (by decide)]; exact h8⟩
  · obtain ⟨x, hx⟩ := h4 r hr
    exact ⟨x, hx.now (e _ (by decide) (by decide)) (e _ (by decide) (by decide))⟩
  · unfold fedS
    rw [s2_ne (by decide)]
    by_cases q : i = z
    · subst q; rw [s2_same]; exact ⟨b, hb, rfl⟩
    · rw [s2_nj (fun _ => q)]; exact h7.2.2 i (by omega)
theorem RC.fed {A S : mA} {T n z b : Nat} (h : RC A S T n z) : RC (s2 (s2 A 25 z (nI b)) 4 2 (nI (z + 1))) (fedS S z b) T n (z + 1) := by
  obtain ⟨h1, h2, h3, h4, h5, h6⟩ := h
  have e : ∀ k, k ≠ 38 → k ≠ 41 → fedS S z b k = S k := fun k a c => by unfold fedS; rw [s2_ne a, s2_ne c]
  have e38 : ∀ j, j ≠ 4 → fedS S z b 38 j = S 38 j := fun j a => by unfold fedS; rw [s2_nj (fun _ => a), s2_ne (by decide)]
  have hA : Fr [4, 25] A (s2 (s2 A 25 z (nI b)) 4 2 (nI (z + 1))) := (Fr.s2 (by decide)).tr (Fr.s2 (by decide))
  refine ⟨?_, ?_, ?_, ?_, ⟨?_, fun i hi => ?_⟩, fun s hs => ?_⟩
  · rw [e 39 (by decide) (by decide)]
    exact h1.fr (hA _ (by decide)) (hA _ (by decide)) (hA _ (by decide)) (hA _ (by decide)) (hA _ (by decide)) (hA _ (by decide))
  · rw [hA 0 (by decide), e38 _ (by decide)]; exact h2
  · rw [e38 _ (by decide), e 40 (by decide) (by decide)]
    exact fun a n' b c => (h3 a n' b c).fr (hA _ (by decide)) (hA _ (by decide)) (hA _ (by decide)) (hA _ (by decide)) (hA _ (by decide)) (hA _ (by decide))
  · unfold RCt pe at *
    rw [hA 3 (by decide), hA 22 (by decide), hA 23 (by decide), e38 _ (by decide), e 42 (by decide) (by decide), e 43 (by decide) (by decide)]
    exact h4
  · unfold fedS; rw [s2_same, s2_same]
  · unfold fedS
    rw [s2_ne (show (25 : Nat) ≠ 4 by decide), s2_ne (show (41 : Nat) ≠ 38 by decide)]
    by_cases q : i = z
    · subst q; rw [s2_same, s2_same]
    · rw [s2_nj (fun _ => q), s2_nj (fun _ => q)]; exact h5.2 i (by omega)
  · rw [e 53 (by decide) (by decide), e 54 (by decide) (by decide), e 55 (by decide) (by decide), hA (8 + s) (by simp; omega), hA (34 + s) (by simp; omega)]
    exact h6 s hs
theorem RM.fed {A S : mA} {T z b : Nat} (h : RM A S T) : RM (s2 (s2 A 41 z (nI b)) 38 4 (nI (z + 1))) (fedS S z b) T := by
  obtain ⟨h1, h2, h3, h4, h5, h6, h7, h8, h9, h10, h11, h12, h13⟩ := h
  unfold fedS
  have e : ∀ (X : mA) k, k ≠ 38 → k ≠ 41 → s2 (s2 X 41 z (nI b)) 38 4 (nI (z + 1)) k = X k := fun X k a c => by rw [s2_ne a, s2_ne c]
  have e38 : ∀ (X : mA) j, j ≠ 4 → s2 (s2 X 41 z (nI b)) 38 4 (nI (z + 1)) 38 j = X 38 j := fun X j a => by rw [s2_nj (fun _ => a), s2_ne (by decide)]
  refine ⟨?_, ?_, ?_, ?_, ?_, ?_, ?_, ?_, ?_, ?_, ?_, ?_, ?_⟩
  · rw [e _ _ (by decide) (by decide), e _ _ (by decide) (by decide)]; exact h1
  · rw [e _ _ (by decide) (by decide), e _ _ (by decide) (by decide)]; exact h2
  · rw [e38 _ _ (by decide), e38 _ _ (by decide)]; exact h3
  · rw [s2_same, s2_same]
  · rw [e38 _ _ (by decide), e38 _ _ (by decide)]; exact h5
  · rw [s2_ne (show (41 : Nat) ≠ 38 by decide), s2_ne (show (41 : Nat) ≠ 38 by decide), s2_eq, s2_eq, h6]
  · unfold pe
    rw [e _ _ (by decide) (by decide), e _ _ (by decide) (by decide), e _ _ (by decide) (by decide)]; exact h7
  · rw [e _ _ (by decide) (by decide), e _ _ (by decide) (by decide)]; exact h8
  · rw [e _ _ (by decide) (by decide), e _ _ (by decide) (by decide)]; exact h9
  · rw [e _ _ (by decide) (by decide), e _ _ (by decide) (by decide)]; exact h10
  · rw [e _ _ (by decide) (by decide), e _ _ (by decide) (by decide)]; exact h11
  · rw [e _ _ (by decide) (by decide)]; exact h12
  · rw [e _ _ (by decide) (by decide)]; exact h13
