/-! WHAT A STATE IS: the reference's lasting rows, S, in its own layout (38 its object, 39 now, 40 kept, 41 tape, 42 code, 43 ends, 53 sorts, 54 sizes, 55 cells) -/
def Fr (X : List Nat) (A A' : mA) : Prop := ∀ k, k ∉ X → A' k = A k
theorem Fr.rf {X : List Nat} {A : mA} : Fr X A A := fun _ _ => rfl
theorem Fr.tr {X : List Nat} {A B C : mA} (h1 : Fr X A B) (h2 : Fr X B C) : Fr X A C := fun k hk => (h2 k hk).trans (h1 k hk)
theorem Fr.mo {X Y : List Nat} {A B : mA} (h : Fr X A B) (hs : ∀ k, k ∈ X → k ∈ Y) : Fr Y A B := fun k hk => h k (fun z => hk (hs k z))
theorem Fr.up {X : List Nat} {A : mA} {k : Nat} {g : Nat → Int32} (h : k ∈ X) : Fr X A (va_up A k g) := fun q hq => va_up_no (fun e => hq (e ▸ h))
theorem Fr.s2 {X : List Nat} {A : mA} {k j : Nat} {v : Int32} (h : k ∈ X) : Fr X A (s2 A k j v) := fun q hq => s2_ne (fun e => hq (e ▸ h))
def spt (e : Nat → Nat) (p : Nat) : Nat := if p = 0 then 0 else e (p - 1)
def TXv (S : mA) (r : Nat) (e : Nat → Nat) : Prop := (∀ p, p < 3 → S 43 (3 * r + p) = nI (e p)) ∧ e 0 ≤ e 1 ∧ e 1 ≤ e 2 ∧ e 2 ≤ 160 ∧ ∀ p, p < 3 → rok (fun i => S 42 (160 * r + i)) (spt e p) (e p - spt e p) 0
def pe (S : mA) (r p : Nat) : Nat := (S 43 (3 * r + p)).toNatClampNeg
def tl (S : mA) (r p : Nat) (nv : Nat → Int32) : Int32 := (rev nv (fun i => S 42 (160 * r + i)) (spt (pe S r) p) (pe S r p - spt (pe S r) p) []).headD 0
def nvF (S : mA) (w a nr : Int32) : Nat → Int32
  | 0 => w
  | 1 => a
  | 2 => nr
  | 3 => S 39 61
  | 4 => nI (cnz (S 39) 40)
  | _ => S 39 60
theorem TXv.le {S : mA} {r : Nat} {e : Nat → Nat} (h : TXv S r e) {p : Nat} (hp : p < 3) : spt e p ≤ e p ∧ e p ≤ 160 := by
  obtain ⟨-, h1, h2, h3, -⟩ := h
  rcases (show p = 0 ∨ p = 1 ∨ p = 2 by omega) with rfl | rfl | rfl
  · exact ⟨Nat.zero_le _, by omega⟩
  · exact ⟨h1, by omega⟩
  · exact ⟨h2, h3⟩
theorem TXv_pe {S : mA} {r : Nat} {e : Nat → Nat} (h : TXv S r e) {p : Nat} (hp : p < 3) : pe S r p = e p := by
  unfold pe
  rw [h.1 p hp]
  exact nI_clamp (by have := (h.le hp).2; omega)
theorem TXv_sp {S : mA} {r : Nat} {e : Nat → Nat} (h : TXv S r e) {p : Nat} (hp : p < 3) : spt (pe S r) p = spt e p := by
  unfold spt
  by_cases h0 : p = 0
  · rw [if_pos h0, if_pos h0]
  · rw [if_neg h0, if_neg h0]
    exact TXv_pe h (by omega)
theorem tl_eq {S : mA} {r : Nat} {e : Nat → Nat} (h : TXv S r e) {p : Nat} (hp : p < 3) (nv : Nat → Int32) : tl S r p nv = (rev nv (fun i => S 42 (160 * r + i)) (spt e p) (e p - spt e p) []).headD 0 := by
  unfold tl
  rw [TXv_sp h hp, TXv_pe h hp]
/-- what a pair of kind kd and number nr takes, by text r -/
def hV (S : mA) (r : Nat) (nr a w : Int32) : Int32 := clp (tl S r 0 (nvF S w a nr)) (-99) 99
def cV (S : mA) (r : Nat) (nr a : Int32) : Int32 := clp (tl S r 1 (nvF S 0 a nr)) 0 99
def fV (S : mA) (r : Nat) (nr a : Int32) : Int32 := clp (tl S r 2 (nvF S 0 a nr)) 0 40
def wdV (nr w v : Int32) : Int32 := if w = nr - nr / 6 * 6 then 2 * v else v
def heatF (S : mA) (r : Nat) (kd nr a w : Int32) : Int32 :=
  if kd = 1 then clp (wdV nr w (hV S r nr a w)) (-99) 99 else if kd = 2 then hV S r nr a w / 2 else if kd = 3 then clp (wdV nr w (hV S r nr a w)) 0 99
  else if kd = 4 then (if a < 20 then -10 else hV S r nr a w / 2) else if kd = 5 then 0 else hV S r nr a w
def coolF (S : mA) (r : Nat) (kd nr a : Int32) : Int32 :=
  if kd = 1 then clp (cV S r nr a - 1) 0 99 else if kd = 2 then clp (cV S r nr a + 3) 0 99 else if kd = 3 then (if a ≤ 50 then clp (cV S r nr a - 1) 0 99 else 0)
  else if kd = 4 then clp (2 * (cV S r nr a + 3)) 0 99 else cV S r nr a
def farF (S : mA) (r : Nat) (kd nr a : Int32) : Int32 :=
  if kd = 2 then clp (fV S r nr a - nr) 0 40 else if kd = 3 then clp (fV S r nr a + 5) 0 40 else if kd = 4 then (if a = 0 then 0 else clp (fV S r nr a - nr) 0 40)
  else if kd = 5 then 4 * nr else fV S r nr a
/-- ANGER behind a word, behind a minute -/
def bwF (S : mA) (r : Nat) (kd nr a w : Int32) : Int32 := clp (a + heatF S r kd nr a w) 0 99
def bmF (S : mA) (r : Nat) (kd nr a : Int32) : Int32 := clp (a - coolF S r kd nr a) 0 99
/-- a scene's numbers are such -/
def WfN (f : Nat → Int32) (T n : Nat) : Prop := n ≤ 5 ∧ f 60 = nI n ∧ (∃ h, h < 100 ∧ f 61 = nI h) ∧ (∃ r, r < T ∧ f 62 = nI r) ∧ (∀ p, p < n → (∃ k, k < 6 ∧ f (40 + 4 * p) = nI k) ∧ (∃ q, q < 10 ∧ f (41 + 4 * p) = nI q) ∧ (∃ a, a < 100 ∧ f (42 + 4 * p) = nI a) ∧ ∃ t, t < 10000 ∧ f (43 + 4 * p) = nI t) ∧ ∀ i, i < 40 → ∃ t, t < 8 ∧ f i = nI t
def WfS (S : mA) (T n z : Nat) : Prop := 1 ≤ T ∧ T ≤ 6 ∧ S 38 11 = nI T ∧ (∀ r, r < T → ∃ e, TXv S r e) ∧ WfN (S 39) T n ∧ (S 38 2 = 0 ∨ (S 38 2 = 1 ∧ ∃ n', WfN (S 40) T n')) ∧ (z ≤ 160 ∧ S 38 4 = nI z ∧ ∀ i, i < z → ∃ b, b < 256 ∧ S 41 i = nI b) ∧ ∀ s, s < 4 → (S 53 s = -1 ∨ ∃ t, t < 3 ∧ S 53 s = nI t) ∧ ∃ y, y ≤ 40 ∧ S 54 s = nI y
/-- the letters of the reference's names -/
def mNm : Nat → Int32 := fun j => ([119, 111, 114, 100, 0, 0, 97, 110, 103, 101, 114, 0, 110, 117, 109, 98, 101, 114, 104, 111, 117, 114, 0, 0, 116, 104, 105, 110, 103, 115, 98, 101, 110, 99, 104, 0, 104, 101, 97, 116, 115, 0, 99, 111, 111, 108, 115, 0, 102, 97, 114, 0, 0, 0, 111, 114, 0, 0, 0, 0, 97, 110, 100, 0, 0, 0, 110, 111, 116, 0, 0, 0] : List Int32).getD j 0
/-- the reference's memory holds S -/
def RM (A S : mA) (T : Nat) : Prop := A 39 = S 39 ∧ A 40 = S 40 ∧ A 38 2 = S 38 2 ∧ A 38 4 = S 38 4 ∧ A 38 11 = S 38 11 ∧ A 41 = S 41 ∧ (∀ r i, r < T → i < pe S r 2 → A 42 (160 * r + i) = S 42 (160 * r + i)) ∧ (∀ i, i < 3 * T → A 43 i = S 43 i) ∧ A 53 = S 53 ∧ A 54 = S 54 ∧ A 55 = S 55 ∧ (∀ i, i < 72 → A 44 i = mNm i) ∧ ∀ i, i < 6 → A 57 i = mAb i
/-- the class's memory holds S -/
def RCn (A : mA) (o b : Nat) (f : Nat → Int32) (n : Nat) : Prop := (∀ i, i < 40 → A b i = f i) ∧ (∀ p, p < n → A (b + 1) p = f (40 + 4 * p) ∧ A (b + 2) p = f (41 + 4 * p) ∧ A (b + 3) p = f (42 + 4 * p) ∧ A (b + 4) p = f (43 + 4 * p)) ∧ A o 5 = f 60 ∧ A o 6 = f 61 ∧ A o 7 = f 62
def RCt (A S : mA) (T : Nat) : Prop := A 3 4 = S 38 11 ∧ (∀ i, i < 3 * T → A 23 i = S 43 i) ∧ ∀ r i, r < T → i < pe S r 2 → A 22 (160 * r + i) = enc (S 42 (160 * r + i))
def RC (A S : mA) (T n z : Nat) : Prop := RCn A 1 12 (S 39) n ∧ A 0 2 = S 38 2 ∧ (S 38 2 = 1 → ∀ n', S 40 60 = nI n' → n' ≤ 5 → RCn A 2 17 (S 40) n') ∧ RCt A S T ∧ (A 4 2 = S 38 4 ∧ ∀ i, i < z → A 25 i = S 41 i) ∧ ∀ s, s < 4 → A (8 + s) 1 = S 53 s ∧ A (8 + s) 2 = S 54 s ∧ ∀ i, i < 40 → A (34 + s) i = S 55 (40 * s + i)
/-- what the class's scratch rows are: temper, reach, the stack, names, reach's rows -/
abbrev xC : List Nat := [5, 6, 24, 26, 27, 28, 29, 30, 31, 32, 33]
theorem RCn.fr {A A' : mA} {o b n : Nat} {f : Nat → Int32} (h : RCn A o b f n) (e0 : A' b = A b) (e1 : A' (b + 1) = A (b + 1)) (e2 : A' (b + 2) = A (b + 2)) (e3 : A' (b + 3) = A (b + 3)) (e4 : A' (b + 4) = A (b + 4)) (e5 : A' o = A o) : RCn A' o b f n := by
  unfold RCn at *
  rw [e0, e1, e2, e3, e4, e5]
  exact h
theorem RC.fr {A A' S : mA} {T n z : Nat} (h : RC A S T n z) (hf : Fr xC A A') : RC A' S T n z := by
  obtain ⟨h1, h2, h3, h4, h5, h6⟩ := h
  refine ⟨h1.fr (hf _ (by decide)) (hf _ (by decide)) (hf _ (by decide)) (hf _ (by decide)) (hf _ (by decide)) (hf _ (by decide)), by rw [hf 0 (by decide)]; exact h2, fun a n' b c => (h3 a n' b c).fr (hf _ (by decide)) (hf _ (by decide)) (hf _ (by decide)) (hf _ (by decide)) (hf _ (by decide)) (hf _ (by decide)), ?_, ?_, ?_⟩
  · unfold RCt at *
    rw [hf 3 (by decide), hf 22 (by decide), hf 23 (by decide)]
    exact h4
  · rw [hf 4 (by decide), hf 25 (by decide)]
    exact h5
  · intro s hs
    rcases (show s = 0 ∨ s = 1 ∨ s = 2 ∨ s = 3 by omega) with rfl | rfl | rfl | rfl
    · rw [hf _ (by decide), hf _ (by decide)]; exact h6 _ hs
    · rw [hf _ (by decide), hf _ (by decide)]; exact h6 _ hs
    · rw [hf _ (by decide), hf _ (by decide)]; exact h6 _ hs
    · rw [hf _ (by decide), hf _ (by decide)]; exact h6 _ hs
/-- the reference's scratch rows beside its object -/
abbrev xM : List Nat := [45, 46, 47, 48, 49, 50, 51, 52, 56]
/-- nothing that lasts in the reference's object changes -/
def FM (A A' : mA) : Prop := Fr (38 :: xM) A A' ∧ A' 38 2 = A 38 2 ∧ A' 38 4 = A 38 4 ∧ A' 38 11 = A 38 11
theorem FM.rf {A : mA} : FM A A := ⟨Fr.rf, rfl, rfl, rfl⟩
theorem FM.tr {A B C : mA} (h1 : FM A B) (h2 : FM B C) : FM A C := ⟨h1.1.tr h2.1, h2.2.1.trans h1.2.1, h2.2.2.1.trans h1.2.2.1, h2.2.2.2.trans h1.2.2.2⟩
theorem FM.of {A A' : mA} {X : List Nat} (h : Fr X A A') (hX : ∀ k, k ∈ X → k ∈ xM) : FM A A' := by
  have e : A' 38 = A 38 := h 38 (fun z => absurd (hX _ z) (by decide))
  exact ⟨h.mo (fun k hk => List.mem_cons_of_mem _ (hX k hk)), by rw [e], by rw [e], by rw [e]⟩
theorem FM.sc {A : mA} {j : Nat} {v : Int32} (h1 : j ≠ 2) (h2 : j ≠ 4) (h3 : j ≠ 11) : FM A (s2 A 38 j v) := ⟨Fr.s2 (by decide), s2_nj (fun _ => Ne.symm h1), s2_nj (fun _ => Ne.symm h2), s2_nj (fun _ => Ne.symm h3)⟩
theorem RM.fm {A A' S : mA} {T : Nat} (h : RM A S T) (hf : FM A A') : RM A' S T := by
  obtain ⟨hf, e1, e2, e3⟩ := hf
  unfold RM at *
  rw [hf 39 (by decide), hf 40 (by decide), e1, e2, e3, hf 41 (by decide), hf 42 (by decide), hf 43 (by decide), hf 53 (by decide), hf 54 (by decide), hf 55 (by decide), hf 44 (by decide), hf 57 (by decide)]
  exact h
theorem RM.fr {A A' S : mA} {T : Nat} {X : List Nat} (h : RM A S T) (hf : Fr X A A') (hX : ∀ k, k ∈ X → k ∈ xM) : RM A' S T := h.fm (FM.of hf hX)
/-- the reference has taken a pair -/
def MT (A S : mA) (r : Nat) (kd nr : Int32) : Prop := A 38 17 = kd ∧ A 38 18 = nr ∧ A 38 19 = nI r ∧ A 38 20 = nI (cnz (S 39) 40)
/-- the class's temper has -/
def TS (A S : mA) (r : Nat) (kd nr : Int32) : Prop := A 5 2 = nI r ∧ A 5 3 = kd ∧ A 26 2 = nr ∧ A 26 3 = S 39 61 ∧ A 26 4 = nI (cnz (S 39) 40) ∧ A 26 5 = S 39 60
/-- switches: none of the cases -/
theorem sw_ne {x : Int32} {k : Int} (y : Int32) (hy : y.toInt = k) (h : ¬ x = y) : x.toInt ≠ k := fun z => h ((i_eq _ _).mpr (z.trans hy.symm))
theorem sw_0_2 {x : Int32} (e0 : ¬ x = 0) (e1 : ¬ x = 1) (e2 : ¬ x = 2) : x.toInt < 0 ∨ 2 < x.toInt := by
  have h0 := sw_ne 0 (k := 0) (by decide) e0
  have h1 := sw_ne 1 (k := 1) (by decide) e1
  have h2 := sw_ne 2 (k := 2) (by decide) e2
  omega
theorem sw_0_3 {x : Int32} (e0 : ¬ x = 0) (e1 : ¬ x = 1) (e2 : ¬ x = 2) (e3 : ¬ x = 3) : x.toInt < 0 ∨ 3 < x.toInt := by
  have h0 := sw_ne 0 (k := 0) (by decide) e0
  have h1 := sw_ne 1 (k := 1) (by decide) e1
  have h2 := sw_ne 2 (k := 2) (by decide) e2
  have h3 := sw_ne 3 (k := 3) (by decide) e3
  omega
theorem sw_0_4 {x : Int32} (e0 : ¬ x = 0) (e1 : ¬ x = 1) (e2 : ¬ x = 2) (e3 : ¬ x = 3) (e4 : ¬ x = 4) : x.toInt < 0 ∨ 4 < x.toInt := by
  have h0 := sw_ne 0 (k := 0) (by decide) e0
  have h1 := sw_ne 1 (k := 1) (by decide) e1
  have h2 := sw_ne 2 (k := 2) (by decide) e2
  have h3 := sw_ne 3 (k := 3) (by decide) e3
  have h4 := sw_ne 4 (k := 4) (by decide) e4
  omega
theorem sw_0_5 {x : Int32} (e0 : ¬ x = 0) (e1 : ¬ x = 1) (e2 : ¬ x = 2) (e3 : ¬ x = 3) (e4 : ¬ x = 4) (e5 : ¬ x = 5) : x.toInt < 0 ∨ 5 < x.toInt := by
  have h0 := sw_ne 0 (k := 0) (by decide) e0
  have h1 := sw_ne 1 (k := 1) (by decide) e1
  have h2 := sw_ne 2 (k := 2) (by decide) e2
  have h3 := sw_ne 3 (k := 3) (by decide) e3
  have h4 := sw_ne 4 (k := 4) (by decide) e4
  have h5 := sw_ne 5 (k := 5) (by decide) e5
  omega
theorem sw_0_7 {x : Int32} (e0 : ¬ x = 0) (e1 : ¬ x = 1) (e2 : ¬ x = 2) (e3 : ¬ x = 3) (e4 : ¬ x = 4) (e5 : ¬ x = 5) (e6 : ¬ x = 6) (e7 : ¬ x = 7) : x.toInt < 0 ∨ 7 < x.toInt := by
  have h0 := sw_ne 0 (k := 0) (by decide) e0
  have h1 := sw_ne 1 (k := 1) (by decide) e1
  have h2 := sw_ne 2 (k := 2) (by decide) e2
  have h3 := sw_ne 3 (k := 3) (by decide) e3
  have h4 := sw_ne 4 (k := 4) (by decide) e4
  have h5 := sw_ne 5 (k := 5) (by decide) e5
  have h6 := sw_ne 6 (k := 6) (by decide) e6
  have h7 := sw_ne 7 (k := 7) (by decide) e7
  omega
theorem sw_1_4 {x : Int32} (e0 : ¬ x = 1) (e1 : ¬ x = 2) (e2 : ¬ x = 3) (e3 : ¬ x = 4) : x.toInt < 1 ∨ 4 < x.toInt := by
  have h0 := sw_ne 1 (k := 1) (by decide) e0
  have h1 := sw_ne 2 (k := 2) (by decide) e1
  have h2 := sw_ne 3 (k := 3) (by decide) e2
  have h3 := sw_ne 4 (k := 4) (by decide) e3
  omega
theorem sw_1_5 {x : Int32} (e0 : ¬ x = 1) (e1 : ¬ x = 2) (e2 : ¬ x = 3) (e3 : ¬ x = 4) (e4 : ¬ x = 5) : x.toInt < 1 ∨ 5 < x.toInt := by
  have h0 := sw_ne 1 (k := 1) (by decide) e0
  have h1 := sw_ne 2 (k := 2) (by decide) e1
  have h2 := sw_ne 3 (k := 3) (by decide) e2
  have h3 := sw_ne 4 (k := 4) (by decide) e3
  have h4 := sw_ne 5 (k := 5) (by decide) e4
  omega
theorem sw_2_5 {x : Int32} (e0 : ¬ x = 2) (e1 : ¬ x = 3) (e2 : ¬ x = 4) (e3 : ¬ x = 5) : x.toInt < 2 ∨ 5 < x.toInt := by
  have h0 := sw_ne 2 (k := 2) (by decide) e0
  have h1 := sw_ne 3 (k := 3) (by decide) e1
  have h2 := sw_ne 4 (k := 4) (by decide) e2
  have h3 := sw_ne 5 (k := 5) (by decide) e3
  omega
theorem sw_0_6 {x : Int32} (e0 : ¬ x = 0) (e1 : ¬ x = 1) (e2 : ¬ x = 2) (e3 : ¬ x = 3) (e4 : ¬ x = 4) (e5 : ¬ x = 5) (e6 : ¬ x = 6) : x.toInt < 0 ∨ 6 < x.toInt := by
  have h0 := sw_ne 0 (k := 0) (by decide) e0
  have h1 := sw_ne 1 (k := 1) (by decide) e1
  have h2 := sw_ne 2 (k := 2) (by decide) e2
  have h3 := sw_ne 3 (k := 3) (by decide) e3
  have h4 := sw_ne 4 (k := 4) (by decide) e4
  have h5 := sw_ne 5 (k := 5) (by decide) e5
  have h6 := sw_ne 6 (k := 6) (by decide) e6
  omega
theorem sw_2_7 {x : Int32} (e0 : ¬ x = 2) (e1 : ¬ x = 3) (e2 : ¬ x = 4) (e3 : ¬ x = 5) (e4 : ¬ x = 6) (e5 : ¬ x = 7) : x.toInt < 2 ∨ 7 < x.toInt := by
  have h0 := sw_ne 2 (k := 2) (by decide) e0
  have h1 := sw_ne 3 (k := 3) (by decide) e1
  have h2 := sw_ne 4 (k := 4) (by decide) e2
  have h3 := sw_ne 5 (k := 5) (by decide) e3
  have h4 := sw_ne 6 (k := 6) (by decide) e4
  have h5 := sw_ne 7 (k := 7) (by decide) e5
  omega
