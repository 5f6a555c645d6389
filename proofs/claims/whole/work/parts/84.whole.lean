/-! THE WHOLE START -/
def enL : Nat → List mK → List (Nat × mK)
  | _, [] => []
  | k, e :: es => (k, e) :: enL (k + 1) es
theorem nws_en {E : mE} {A : mA} {L : mJ} : ∀ (es : List mK) (k : Nat), nws E A L (enL k es) = mwf E A L k es
  | [], _ => rfl
  | e :: es, k => by
    show (mad E k, mce E A L k e) :: nws E A L (enL (k + 1) es) = _
    rw [nws_en es (k + 1)]
    rfl
theorem mwf_cg {E E' : mE} {A A' : mA} {L L' : mJ} (hc : E'.2.1 = E.2.1) (hm : mad E' = mad E) : ∀ (es : List mK) (k : Nat), (∀ j, j < k + es.length → A' j = A j ∧ L' j = L j) → mwf E' A' L' k es = mwf E A L k es
  | [], _, _ => rfl
  | e :: es, k, h => by
    have hk := h k (by simp)
    have h1 : mce E' A' L' k e = mce E A L k e := by
      rw [mce_cong hk.1 hk.2]
      have hu : mup E' = mup E := by
        funext v
        cases v <;> simp only [mup, hm]
      have hfs : ∀ (fs : List Value) (j : Nat), mfs E' A k j fs = mfs E A k j fs := by
        intro fs
        induction fs with
        | nil => intro j; rfl
        | cons v vs ih =>
          intro j
          simp only [mfs, ih]
          congr 1
          cases v <;> simp only [mfv, hu]
      rcases e with ⟨t, n, rs⟩ | ⟨ci, fs⟩
      · simp only [mce, hc, hm]
      · simp only [mce, hfs]
    simp only [mwf, h1, hm]
    rw [mwf_cg hc hm es (k + 1) (fun j hj => h j (by simp at hj ⊢; omega))]
theorem enL_mem : ∀ (es : List mK) (k0 k : Nat) (e : mK), es[k]? = some e → (k0 + k, e) ∈ enL k0 es
  | [], _, _, _, h => by simp at h
  | x :: es, k0, 0, e, h => by simp at h; subst h; exact List.mem_cons_self
  | x :: es, k0, k + 1, e, h => by
    rw [List.getElem?_cons_succ] at h
    have := enL_mem es (k0 + 1) k e h
    rw [show k0 + (k + 1) = k0 + 1 + k by omega]
    exact List.mem_cons_of_mem _ this
theorem nP_mem {E : mE} {A : mA} {L : mJ} {ns : List (Nat × mK)} {H : Heap} (hP : va_P E.1 vwCl (nws E A L ns) H) (hm : ∀ (k : Nat) (e : mK), (mly E)[k]? = some e → (k, e) ∈ ns) : va_P E.1 vwCl (mws E A L) H := by
  intro k q hk
  obtain ⟨e, h1, rfl⟩ := mwf_got _ _ _ _ hk
  rw [Nat.zero_add]
  obtain ⟨i, hi⟩ := List.getElem?_of_mem (hm k e h1)
  exact hP i _ (nws_get hi)
/-- where each cell lies behind the first free place -/
def offA (k : Nat) : Nat := if k < 38 then offC.getD k 0 else 38 + offM.getD (k - 38) 0
theorem offA_inj : ∀ i, i < 59 → ∀ j, j < 59 → offA i = offA j → i = j := by decide +kernel
theorem n7_all : ∀ (k : Nat) (e : mK), (mLc ++ mLm)[k]? = some e → (k, e) ∈ n7 (enL 0 mLc) := by
  intro k e h
  by_cases hk : k < 38
  · have h2 : mLc[k]? = some e := by rw [List.getElem?_append_left (show k < mLc.length from hk)] at h; exact h
    have h3 := enL_mem mLc 0 k e h2
    rw [Nat.zero_add] at h3
    unfold n7
    iterate 21 refine List.mem_cons_of_mem _ ?_
    exact h3
  · have hl : k < 58 := (List.getElem?_eq_some_iff.mp h).1
    have hc : k = 38 ∨ k = 39 ∨ k = 40 ∨ k = 41 ∨ k = 42 ∨ k = 43 ∨ k = 44 ∨ k = 45 ∨ k = 46 ∨ k = 47 ∨ k = 48 ∨ k = 49 ∨ k = 50 ∨ k = 51 ∨ k = 52 ∨ k = 53 ∨ k = 54 ∨ k = 55 ∨ k = 56 ∨ k = 57 := by omega
    rcases hc with rfl | rfl | rfl | rfl | rfl | rfl | rfl | rfl | rfl | rfl | rfl | rfl | rfl | rfl | rfl | rfl | rfl | rfl | rfl | rfl <;> cases h
    · exact List.mem_of_getElem? (i := 20) rfl
    · exact List.mem_of_getElem? (i := 19) rfl
    · exact List.mem_of_getElem? (i := 18) rfl
    · exact List.mem_of_getElem? (i := 17) rfl
    · exact List.mem_of_getElem? (i := 16) rfl
    · exact List.mem_of_getElem? (i := 15) rfl
    · exact List.mem_of_getElem? (i := 13) rfl
    · exact List.mem_of_getElem? (i := 12) rfl
    · exact List.mem_of_getElem? (i := 11) rfl
    · exact List.mem_of_getElem? (i := 10) rfl
    · exact List.mem_of_getElem? (i := 9) rfl
    · exact List.mem_of_getElem? (i := 8) rfl
    · exact List.mem_of_getElem? (i := 7) rfl
    · exact List.mem_of_getElem? (i := 6) rfl
    · exact List.mem_of_getElem? (i := 5) rfl
    · exact List.mem_of_getElem? (i := 4) rfl
    · exact List.mem_of_getElem? (i := 3) rfl
    · exact List.mem_of_getElem? (i := 2) rfl
    · exact List.mem_of_getElem? (i := 1) rfl
    · exact List.mem_of_getElem? (i := 0) rfl
theorem nb_X6 {E : mE} {h : Nat} (hE : mly E = mLc) (hw : mWf E) (hm : ∀ k, k < 38 → mad E k = h + offC.getD k 0) (l : Launch) : Met l mm_X6_init.1 (mWs mm_X6_init) R6 (va_Pc ([.ref 0].map (mup E)) (fun U => nPre E zA zL [(0, .inr (6, [.null, .null, .int 0, .null, .null, .null, .null, .null]))] (h + 1) U ∧ nX6 U)) (mQ E (fun r A' _ => r = none ∧ RC A' S0 1 0 0)) 37 2841 (mfr E) := by
  refine Met.ofW (cc := mm_X6_init.2.1) (maxL := mm_X6_init.2.2.1) (ret := mm_X6_init.2.2.2) (by decide) rfl ?_
  intro p e s m args below meth c s₁ B hml hv
  obtain ⟨rfl, ⟨hP, hD, hz, hA, hK, hX⟩, hN⟩ := hv
  have hts := atoms_spec (ws := mWs mm_X6_init) B.pre
  have hown : s.vm.findClass mm_X6_init.1.cls = some m.cls := findClass_of_methodNamed B.named
  have hin : meth.name = mm_X6_init.1.name := (name_of_methodNamed B.named B.method).1
  have hl := lv_entry ([.ref 0].map (mup E)) (n := mm_X6_init.2.2.1) (by rw [lg_sl_up]; exact Nat.le_of_ble_eq_true rfl)
  rw [lv_args_up] at hl
  rw [lg_entry_eq]
  exact x6_walk ⟨⟨B.exec, B.bytes, hml, B.returns, B.notSynchronized, hown, hts, hK, hX⟩, hz, hA, hin⟩ hE hw hm hN s.heap [] _ hP hD rfl va_S.rf hl
