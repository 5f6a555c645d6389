/-! pairs of a state -/
def rF (S : mA) : Nat := (S 39 62).toNatClampNeg
def kdP (S : mA) (p : Nat) : Int32 := S 39 (40 + 4 * p)
def nrP (S : mA) (p : Nat) : Int32 := S 39 (41 + 4 * p)
def anP (S : mA) (p : Nat) : Int32 := S 39 (42 + 4 * p)
def farP (S : mA) (p : Nat) (a : Int32) : Int32 := farF S (rF S) (kdP S p) (nrP S p) a
def bwP (S : mA) (p : Nat) (a w : Int32) : Int32 := bwF S (rF S) (kdP S p) (nrP S p) a w
def bmP (S : mA) (p : Nat) (a : Int32) : Int32 := bmF S (rF S) (kdP S p) (nrP S p) a
theorem WfS.rl {S : mA} {T n z : Nat} (h : WfS S T n z) : rF S < T ∧ S 39 62 = nI (rF S) := by
  obtain ⟨r, hr, e⟩ := h.2.2.2.2.1.2.2.2.1
  have hT := h.2.1
  have : rF S = r := by unfold rF; rw [e]; exact nI_clamp (by omega)
  rw [this]
  exact ⟨hr, e⟩
section PAIRS
variable {E : mE} {d : Nat} {A S : mA} {L : mJ} {Ph : mP} {T n z p : Nat}
theorem co_of (hE : hC E) (hW : WfS S T n z) (hR : RC A S T n z) (hp : p < n) (h : ∀ A', Fr [5, 26] A A' → CE E A' S T (rF S) (kdP S p) (nrP S p) → RC A' S T n z → Ph none A' L) : qC E mm_X4_of (d + 2) [.ref 5, .ref 1, .int (nI p)] A L Ph := by
  have hN := hW.2.2.2.2.1
  obtain ⟨hr, er⟩ := hW.rl
  refine sp_X4_of hE hN.1 hp hR.1 hN.2.1 (fun A' f1 ts => ?_)
  have hR' := hR.fr (f1.mo (by decide))
  exact h A' f1 ⟨hE, hR'.2.2.2.1, hr, hW.2.1, hW.2.2.2.1 _ hr, ts S (rF S) rfl er, (hN.2.2.2.2.1 p hp).2.1⟩ hR'
theorem co_an (hE : hC E) (hW : WfS S T n z) (hR : RC A S T n z) (hp : p < n) (h : Ph (some (.int (anP S p))) A L) : qC E mm_X2_angerOf (d + 2) [.ref 1, .int (nI p)] A L Ph := by
  have hN := hW.2.2.2.2.1
  refine sp_X2_angerOf hE n hN.1 (hR.1.2.2.1.trans hN.2.1) hp ?_
  rw [show A 15 p = anP S p from (hR.1.2.1 p hp).2.2.1]
  exact h
theorem mo_take (hE : hM E) (hW : WfS S T n z) (hR : RM A S T) (hp : p < n) (h : ∀ A', Fr [38] A A' → FM A A' → ME E A' S T (rF S) (kdP S p) (nrP S p) → Ph none A' L) : qC E mm_X7_take (d + 1) [.ref 38, .int (nI p)] A L Ph := by
  have hN := hW.2.2.2.2.1
  obtain ⟨hr, er⟩ := hW.rl
  have hn := hN.1
  refine sp_X7_take hE hR (by omega) (fun A' f1 f2 hR' mt => ?_)
  exact h A' f1 f2 ⟨hE, hR', hr, hW.2.1, hW.2.2.2.1 _ hr, mt _ er⟩
theorem mo_an (hE : hM E) (hW : WfS S T n z) (hR : RM A S T) (hp : p < n) (h : Ph (some (.int (anP S p))) A L) : qC E mm_X7_anger d [.ref 38, .int (nI p)] A L Ph := by
  have hn := hW.2.2.2.2.1.1
  refine sp_X7_anger hE (by omega) ?_
  rw [show A 39 (42 + 4 * p) = anP S p by rw [hR.1]; rfl]
  exact h
theorem ME.rm {r : Nat} {kd nr : Int32} (h : ME E A S T r kd nr) : RM A S T := h.2.1
theorem fm46 {A A' : mA} (h : Fr [46] A A') : FM A A' := FM.of h (by decide)
theorem ME.f46 {A' : mA} {r : Nat} {kd nr : Int32} (h : ME E A S T r kd nr) (hf : Fr [46] A A') : ME E A' S T r kd nr := h.fr hf (by decide)
theorem FM.lo {A A' : mA} (h : FM A A') : ∀ k, k < 38 → A' k = A k := Fr.lo h.1 (by decide)
theorem anP_ok (hW : WfS S T n z) (hp : p < n) : ∃ a, a < 100 ∧ anP S p = nI a := (hW.2.2.2.2.1.2.2.2.2.1 p hp).2.2.1
theorem bw_ok (a w : Int32) : ∃ j, j < 100 ∧ bwP S p a w = nI j := by
  obtain ⟨j, hj, e⟩ := clp_nI (v := a + heatF S (rF S) (kdP S p) (nrP S p) a w) 99 (by decide)
  exact ⟨j, by omega, e⟩
theorem bm_ok (a : Int32) : ∃ j, j < 100 ∧ bmP S p a = nI j := by
  obtain ⟨j, hj, e⟩ := clp_nI (v := a - coolF S (rF S) (kdP S p) (nrP S p) a) 99 (by decide)
  exact ⟨j, by omega, e⟩
theorem far_ok (hW : WfS S T n z) (hp : p < n) (a : Int32) : ∃ j, j ≤ 40 ∧ farP S p a = nI j := by
  obtain ⟨q, hq, e⟩ := (hW.2.2.2.2.1.2.2.2.2.1 p hp).2.1
  have := farK S (rF S) (kdP S p) a ⟨q, hq, (show nrP S p = nI q from e)⟩
  obtain ⟨j, hj, e2⟩ := clp_nI (v := fkF (kdP S p) (nrP S p) (fV S (rF S) (nrP S p) a) a) 40 (by decide)
  exact ⟨j, hj, by unfold farP; rw [← this]; exact e2⟩
end PAIRS
