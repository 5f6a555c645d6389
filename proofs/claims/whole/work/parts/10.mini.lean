/-! THE SMALL MACHINE. A layout (which cells there are, never changed by a call) and a memory: ints by cell and place, longs by cell and place. -/
abbrev mK : Type := (Nat × Nat × List (Option Nat)) ⊕ (Nat × List Value)
abbrev mE : Type := va_G × (Nat → ClassId) × (Nat → Nat) × (Nat → Prop) × List mK
abbrev mA : Type := Nat → Nat → Int32
abbrev mJ : Type := Nat → Nat → Int64
abbrev mM : Type := MethodName × ByteArray × Nat × Option FieldType
def mad (E : mE) : Nat → Nat := E.2.2.1
def mfr (E : mE) : Nat → Prop := E.2.2.2.1
def mly (E : mE) : List mK := E.2.2.2.2
def mup (E : mE) : Value → Value
  | .ref k => .ref (mad E k)
  | v => v
def mfv (E : mE) (A : mA) (k j : Nat) : Value → Value
  | .int _ => .int (A k j)
  | v => mup E v
def mfs (E : mE) (A : mA) (k : Nat) : Nat → List Value → List Value
  | _, [] => []
  | j, v :: vs => mfv E A k j v :: mfs E A k (j + 1) vs
def mce (E : mE) (A : mA) (L : mJ) (k : Nat) : mK → va_E
  | .inl (t, n, rs) => .inl (E.2.1 t, n, if t = 1 then .inr (.inl (L k)) else if t = 4 then .inr (.inr (.inr (.inr (fun i => (rs.getD i none).map (mad E))))) else .inl (A k))
  | .inr (ci, fs) => .inr (ci, mfs E A k 0 fs)
def mwf (E : mE) (A : mA) (L : mJ) : Nat → List mK → va_W
  | _, [] => []
  | k, e :: es => (mad E k, mce E A L k e) :: mwf E A L (k + 1) es
def mws (E : mE) (A : mA) (L : mJ) : va_W := mwf E A L 0 (mly E)
def mWf (E : mE) : Prop := (∀ i j, i < (mly E).length → j < (mly E).length → mad E i = mad E j → i = j) ∧ ∀ k, k < (mly E).length → mfr E (mad E k)
theorem mwf_get {E : mE} {A : mA} {L : mJ} : ∀ (es : List mK) (k0 i : Nat) (e : mK), es[i]? = some e → (mwf E A L k0 es)[i]? = some (mad E (k0 + i), mce E A L (k0 + i) e)
  | [], k0, i, e, h => by simp at h
  | x :: es, k0, 0, e, h => by simp at h; subst h; rfl
  | x :: es, k0, i + 1, e, h => by
    rw [List.getElem?_cons_succ] at h
    have := mwf_get (E := E) (A := A) (L := L) es (k0 + 1) i e h
    rw [show k0 + (i + 1) = k0 + 1 + i by omega]
    exact this
theorem mwf_got {E : mE} {A : mA} {L : mJ} : ∀ (es : List mK) (k0 i : Nat) (q : Nat × va_E), (mwf E A L k0 es)[i]? = some q → ∃ e, es[i]? = some e ∧ q = (mad E (k0 + i), mce E A L (k0 + i) e)
  | [], k0, i, q, h => by simp [mwf] at h
  | x :: es, k0, 0, q, h => by simp [mwf] at h; exact ⟨x, rfl, h.symm⟩
  | x :: es, k0, i + 1, q, h => by
    have h : (mwf E A L (k0 + 1) es)[i]? = some q := h
    obtain ⟨e, h1, h2⟩ := mwf_got es (k0 + 1) i q h
    exact ⟨e, h1, by rw [show k0 + (i + 1) = k0 + 1 + i by omega]; exact h2⟩
theorem mws_get {E : mE} {A : mA} {L : mJ} {k : Nat} {e : mK} (h : (mly E)[k]? = some e) : (mws E A L)[k]? = some (mad E k, mce E A L k e) := by
  have := mwf_get (E := E) (A := A) (L := L) (mly E) 0 k e h
  rw [Nat.zero_add] at this
  exact this
theorem mws_D {E : mE} {A : mA} {L : mJ} (hw : mWf E) : va_D (mfr E) (mws E A L) := by
  refine ⟨fun i j p q hi hj hpq => ?_, fun k q hk => ?_⟩
  · obtain ⟨e, h1, rfl⟩ := mwf_got _ _ _ _ hi
    obtain ⟨e', h2, rfl⟩ := mwf_got _ _ _ _ hj
    simp only [Nat.zero_add] at hpq
    exact hw.1 i j (List.getElem?_eq_some_iff.mp h1).1 (List.getElem?_eq_some_iff.mp h2).1 hpq
  · obtain ⟨e, h1, rfl⟩ := mwf_got _ _ _ _ hk
    simp only [Nat.zero_add]
    exact hw.2 k (List.getElem?_eq_some_iff.mp h1).1
theorem mfs_cong {E : mE} {A A' : mA} {k : Nat} (h : A' k = A k) : ∀ (fs : List Value) (j : Nat), mfs E A' k j fs = mfs E A k j fs
  | [], _ => rfl
  | v :: vs, j => by
    have e : mfv E A' k j v = mfv E A k j v := by cases v <;> simp [mfv, h]
    simp only [mfs, e, mfs_cong h vs (j + 1)]
theorem mce_cong {E : mE} {A A' : mA} {L L' : mJ} {k : Nat} (h : A' k = A k) (h2 : L' k = L k) (e : mK) : mce E A' L' k e = mce E A L k e := by
  rcases e with ⟨t, n, rs⟩ | ⟨ci, fs⟩
  · simp only [mce, h, h2]
  · simp only [mce, mfs_cong h]
theorem mwf_set {E : mE} {A A' : mA} {L L' : mJ} {x : va_E} : ∀ (es : List mK) (k0 i : Nat), (∀ j, j ≠ k0 + i → A' j = A j) → (∀ j, j ≠ k0 + i → L' j = L j) → (∀ e, es[i]? = some e → mce E A' L' (k0 + i) e = x) → (mwf E A L k0 es).set i (mad E (k0 + i), x) = mwf E A' L' k0 es
  | [], k0, i, _, _, _ => by simp [mwf]
  | e :: es, k0, 0, h1, h2, h3 => by
    have h4 := h3 e rfl
    have rest : ∀ (es : List mK) (k1 : Nat), k0 < k1 → mwf E A L k1 es = mwf E A' L' k1 es := by
      intro es
      induction es with
      | nil => intro k1 _; rfl
      | cons f fs ih =>
        intro k1 hk
        simp only [mwf]
        rw [mce_cong (h1 k1 (by omega)) (h2 k1 (by omega)) f, ih (k1 + 1) (by omega)]
    simp only [mwf, List.set_cons_zero]
    rw [rest es (k0 + 1) (by omega), ← h4]
    rfl
  | e :: es, k0, i + 1, h1, h2, h3 => by
    have e1 : k0 + (i + 1) = k0 + 1 + i := by omega
    rw [e1] at h1 h2 h3 ⊢
    have ih := mwf_set (E := E) (x := x) es (k0 + 1) i h1 h2 (fun f hf => h3 f (by rw [List.getElem?_cons_succ]; exact hf))
    simp only [mwf, List.set_cons_succ]
    rw [ih, mce_cong (h1 k0 (by omega)) (h2 k0 (by omega)) e]
theorem mws_set {E : mE} {A A' : mA} {L L' : mJ} {x : va_E} {k : Nat} {e : mK} (he : (mly E)[k]? = some e) (h1 : ∀ j, j ≠ k → A' j = A j) (h2 : ∀ j, j ≠ k → L' j = L j) (h3 : mce E A' L' k e = x) : (mws E A L).set k (mad E k, x) = mws E A' L' := by
  have := mwf_set (E := E) (A := A) (A' := A') (L := L) (L' := L') (x := x) (mly E) 0 k (by rw [Nat.zero_add]; exact h1) (by rw [Nat.zero_add]; exact h2) (fun f hf => by rw [he] at hf; cases hf; rw [Nat.zero_add]; exact h3)
  rw [Nat.zero_add] at this
  exact this
/-- writing: an int, a long, a whole row -/
def s2 (A : mA) (k j : Nat) (v : Int32) : mA := va_up A k (upd (A k) j v)
def sJ (L : mJ) (k j : Nat) (v : Int64) : mJ := va_up L k (vp_updL (L k) j v)
theorem s2_ne {A : mA} {k k' j : Nat} {v : Int32} (h : k' ≠ k) : s2 A k j v k' = A k' := by simp [s2, va_up, h]
theorem s2_eq {A : mA} {k j : Nat} {v : Int32} : s2 A k j v k = upd (A k) j v := by simp [s2, va_up]
theorem s2_nj {A : mA} {k k' j j' : Nat} {v : Int32} (h : k' = k → j' ≠ j) : s2 A k j v k' j' = A k' j' := by
  by_cases hk : k' = k
  · subst hk; simp [s2, va_up, upd, h rfl]
  · rw [s2_ne hk]
theorem s2_same {A : mA} {k j : Nat} {v : Int32} : s2 A k j v k j = v := by simp [s2, va_up, upd]
theorem sJ_ne {L : mJ} {k k' j : Nat} {v : Int64} (h : k' ≠ k) : sJ L k j v k' = L k' := by simp [sJ, va_up, h]
theorem sJ_eq {L : mJ} {k j : Nat} {v : Int64} : sJ L k j v k = vp_updL (L k) j v := by simp [sJ, va_up]
theorem va_up_eq {α : Type} {f : Nat → α} {k : Nat} {v : α} : va_up f k v k = v := by simp [va_up]
theorem va_up_no {α : Type} {f : Nat → α} {k k' : Nat} {v : α} (h : k' ≠ k) : va_up f k v k' = f k' := by simp [va_up, h]
/-- the fields of an object, one written -/
theorem mfs_get {E : mE} {A : mA} {k : Nat} : ∀ (fs : List Value) (j0 j : Nat) (v : Value), fs[j]? = some v → (mfs E A k j0 fs)[j]? = some (mfv E A k (j0 + j) v)
  | [], _, _, _, h => by simp at h
  | x :: fs, j0, 0, v, h => by simp at h; subst h; rfl
  | x :: fs, j0, j + 1, v, h => by
    rw [List.getElem?_cons_succ] at h
    rw [show j0 + (j + 1) = j0 + 1 + j by omega]
    exact mfs_get fs (j0 + 1) j v h
theorem mfs_len {E : mE} {A : mA} {k : Nat} : ∀ (fs : List Value) (j0 : Nat), (mfs E A k j0 fs).length = fs.length
  | [], _ => rfl
  | x :: fs, j0 => by simp [mfs, mfs_len fs]
theorem mfs_set {E : mE} {A : mA} {k : Nat} {x : Int32} : ∀ (fs : List Value) (j0 j : Nat) (z : Int32), fs[j]? = some (.int z) → (mfs E A k j0 fs).set j (.int x) = mfs E (s2 A k (j0 + j) x) k j0 fs
  | [], _, _, _, h => by simp at h
  | y :: fs, j0, 0, z, h => by
    simp at h
    subst h
    have rest : ∀ (fs : List Value) (j1 : Nat), j0 < j1 → mfs E A k j1 fs = mfs E (s2 A k j0 x) k j1 fs := by
      intro fs
      induction fs with
      | nil => intro j1 _; rfl
      | cons f fs ih =>
        intro j1 hj
        simp only [mfs]
        rw [ih (j1 + 1) (by omega)]
        congr 1
        cases f <;> simp only [mfv]
        rw [s2_nj (fun _ => by omega)]
    simp only [mfs, List.set_cons_zero, mfv, Nat.add_zero]
    rw [rest fs (j0 + 1) (by omega), s2_same]
  | y :: fs, j0, j + 1, z, h => by
    rw [List.getElem?_cons_succ] at h
    have ih := mfs_set (E := E) (A := A) (k := k) (x := x) fs (j0 + 1) j z h
    have e1 : j0 + 1 + j = j0 + (j + 1) := by omega
    rw [e1] at ih
    simp only [mfs, List.set_cons_succ]
    rw [ih]
    congr 1
    cases y <;> simp only [mfv]
    rw [s2_nj (fun _ => by omega)]
