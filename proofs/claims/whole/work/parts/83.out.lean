/-! WHAT THE STATEMENT GIVES OF THE START: classes, texts, static rows -/
def txT : Nat → Term
  | 0 => .string "NoViewWithoutQuarrel" 56
  | 1 => .string "NoViewWithoutQuarrel$Reader" 106
  | _ => .string "NoViewWithoutQuarrel$Reader" 99
theorem gv_ex : ∀ i, i < 3 → Cond.exactly (txT i) "java/lang/String" ∈ flatC (Jvm.Cond.and given_1 narrow_1) := by decide +kernel
theorem gv_co : ∀ i, i < 3 → Cond.eq (.field (txT i) "java/lang/String" "coder" "B") (.int 0) ∈ flatC (Jvm.Cond.and given_1 narrow_1) := by decide +kernel
theorem gv_ar : ∀ i, i < 3 → Cond.arrayOf (.field (txT i) "java/lang/String" "value" "[B") .byte ∈ flatC (Jvm.Cond.and given_1 narrow_1) := by decide +kernel
theorem gv_le : ∀ i, i < 3 → Cond.eq (.length (.field (txT i) "java/lang/String" "value" "[B")) (.int (Int32.ofNat (mTl.getD i 0))) ∈ flatC (Jvm.Cond.and given_1 narrow_1) := by decide +kernel
theorem gv_el : ∀ i, i < 3 → ∀ j, j < mTl.getD i 0 → Cond.eq (.elem (.field (txT i) "java/lang/String" "value" "[B") (.int (Int32.ofNat j))) (.int ((mTx.getD i []).getD j 0)) ∈ flatC (Jvm.Cond.and given_1 narrow_1) := by decide +kernel
theorem gv_ne : ∀ i, i < 3 → ∀ j, j < 3 → i ≠ j → Cond.not (Cond.eq (txT i) (txT j)) ∈ flatC (Jvm.Cond.and given_1 narrow_1) ∨ Cond.not (Cond.eq (txT j) (txT i)) ∈ flatC (Jvm.Cond.and given_1 narrow_1) := by decide +kernel
theorem gv_ab : Cond.arrayOf (.static "NoViewWithoutQuarrel" "ABOVE" "[I") .int ∈ flatC (Jvm.Cond.and given_1 narrow_1) ∧ Cond.eq (.length (.static "NoViewWithoutQuarrel" "ABOVE" "[I")) (.int (Int32.ofNat 6)) ∈ flatC (Jvm.Cond.and given_1 narrow_1) := by decide +kernel
theorem gv_ae : ∀ j, j < 6 → Cond.eq (.elem (.static "NoViewWithoutQuarrel" "ABOVE" "[I") (.int (Int32.ofNat j))) (.int (mAb j)) ∈ flatC (Jvm.Cond.and given_1 narrow_1) := by decide +kernel
theorem gv_cs : Cond.eq (.static "java/lang/String" "COMPACT_STRINGS" "Z") (.int 1) ∈ flatC (Jvm.Cond.and given_1 narrow_1) ∧ Cond.isRef (.static "jdk/internal/util/Preconditions" "SIOOBE_FORMATTER" "Ljava/util/function/BiFunction;") ∈ flatC (Jvm.Cond.and given_1 narrow_1) := by decide +kernel
theorem tw_nl : ∀ q ∈ mNL, Cond.methodLinkNest q.1 q.2.1 q.2.2.1 q.2.2.2 ∈ lw_tbl := by
  intro q hq
  simp only [mNL, List.mem_cons, List.not_mem_nil, or_false] at hq
  rcases hq with rfl | rfl | rfl | rfl | rfl | rfl | rfl
  · exact List.mem_of_getElem? (i := 329) (by decide +kernel)
  · exact List.mem_of_getElem? (i := 447) (by decide +kernel)
  · exact List.mem_of_getElem? (i := 529) (by decide +kernel)
  · exact List.mem_of_getElem? (i := 561) (by decide +kernel)
  · exact List.mem_of_getElem? (i := 678) (by decide +kernel)
  · exact List.mem_of_getElem? (i := 783) (by decide +kernel)
  · exact List.mem_of_getElem? (i := 824) (by decide +kernel)
theorem x6_start {s : State} {b : Nat} (hts : ∀ w ∈ lw_tbl, w.before #[Value.ref b] s = true) : nX6 s :=
  ⟨va_Nw.of rfl (hts (.methodLinkNest RX6 9 yX2_init "NoViewWithoutQuarrel") (List.mem_of_getElem? (i := 104) (by decide +kernel))), va_Nw.of rfl (hts (.methodLinkNest RX6 21 yX5_init "NoViewWithoutQuarrel") (List.mem_of_getElem? (i := 149) (by decide +kernel))), va_Nw.of rfl (hts (.methodLinkNest RX6 44 yX0_init "NoViewWithoutQuarrel") (List.mem_of_getElem? (i := 225) (by decide +kernel))), va_Nw.of rfl (hts (.methodLinkNest RX6 51 yX3_init "NoViewWithoutQuarrel") (List.mem_of_getElem? (i := 259) (by decide +kernel))), va_AO.of (hts (.arrayOver (.object "NoViewWithoutQuarrel$Sheet")) (List.mem_of_getElem? (i := 257) (by decide +kernel)))⟩
theorem kn_start {s : State} {b : Nat} (hts : ∀ w ∈ lw_tbl, w.before #[Value.ref b] s = true) : ∃ D : va_G, ∀ (c : Nat) (q : vw_C), vwCl[c]? = some q → u_Kn s q.1 q.2.1 q.2.2 (D.1 c) (D.2 c) := by
  have tb : ∀ w ∈ mTb, w.before #[Value.ref b] s = true := fun w h => hts w (mTb_in h)
  obtain ⟨c0, i0, k0⟩ := u_known (n := 8) tb itX0 (tb (.instantiable RX0 8) (mTb_of 224 (by decide +kernel) rfl))
  obtain ⟨c1, i1, k1⟩ := u_known (n := 8) tb itX1 (tb (.instantiable RX1 8) (mTb_of 171 (by decide +kernel) rfl))
  obtain ⟨c2, i2, k2⟩ := u_known (n := 8) tb itX2 (tb (.instantiable RX2 8) (mTb_of 103 (by decide +kernel) rfl))
  obtain ⟨c3, i3, k3⟩ := u_known (n := 3) tb itX3 (tb (.instantiable RX3 3) (mTb_of 258 (by decide +kernel) rfl))
  obtain ⟨c4, i4, k4⟩ := u_known (n := 4) tb itX4 (tb (.instantiable RX4 4) (mTb_of 203 (by decide +kernel) rfl))
  obtain ⟨c5, i5, k5⟩ := u_known (n := 5) tb itX5 (tb (.instantiable RX5 5) (mTb_of 148 (by decide +kernel) rfl))
  obtain ⟨c6, i6, k6⟩ := u_known (n := 8) tb itX6 (tb (.instantiable RX6 8) (mTb_of 95 (by decide +kernel) rfl))
  obtain ⟨c7, i7, k7⟩ := u_known (n := 32) tb itX7 (tb (.instantiable RX7 32) (mTb_of 900 (by decide +kernel) rfl))
  refine ⟨(fun c => [c0, c1, c2, c3, c4, c5, c6, c7].getD c c0, fun c => [i0, i1, i2, i3, i4, i5, i6, i7].getD c i0), fun c q hq => ?_⟩
  have hc : c < 8 := (List.getElem?_eq_some_iff.mp hq).1
  rcases (show c = 0 ∨ c = 1 ∨ c = 2 ∨ c = 3 ∨ c = 4 ∨ c = 5 ∨ c = 6 ∨ c = 7 by omega) with rfl | rfl | rfl | rfl | rfl | rfl | rfl | rfl <;> cases hq
  · exact k0
  · exact k1
  · exact k2
  · exact k3
  · exact k4
  · exact k5
  · exact k6
  · exact k7
theorem ar_start {s : State} {b : Nat} (hts : ∀ w ∈ lw_tbl, w.before #[Value.ref b] s = true) : ∃ cid : Nat → ClassId, ∀ (D : va_G) (ad : Nat → Nat) (F : Nat → Prop) (ly : List mK) (k : Nat) (q : ClassId × FieldType), (mty (D, cid, ad, F, ly))[k]? = some q → ArrOfT s q.1 q.2 ∧ va_RA s q.1 q.2 := by
  have tb : ∀ w ∈ mTb, w.before #[Value.ref b] s = true := fun w h => hts w (mTb_in h)
  obtain ⟨c0, k0, p0, e0, f0, g0⟩ := Cond.arrayClass_spec (tb _ aw_int)
  obtain ⟨c1, k1, p1, e1, f1, g1⟩ := Cond.arrayClass_spec (tb _ aw_long)
  obtain ⟨c2, k2, p2, e2, f2, g2⟩ := Cond.arrayClass_spec (tb _ aw_char)
  obtain ⟨c3, k3, p3, e3, f3, g3⟩ := Cond.arrayClass_spec (tb _ aw_boolean)
  obtain ⟨p4, c4, k4, d4, -, f4, g4, e4⟩ := Cond.arrayOver_spec (x6_start hts).2.2.2.2
  refine ⟨fun k => [c0, c1, c2, c3, c4].getD k c0, fun D ad F ly k q hq => ?_⟩
  have hk : k < 5 := (List.getElem?_eq_some_iff.mp hq).1
  rcases (show k = 0 ∨ k = 1 ∨ k = 2 ∨ k = 3 ∨ k = 4 by omega) with rfl | rfl | rfl | rfl | rfl <;> cases hq
  · exact ⟨fun n z => ⟨(fun k h => (by cases h)), k0, f0, p0, g0⟩, e0⟩
  · exact ⟨fun n z => ⟨(fun k h => (by cases h)), k1, f1, p1, g1⟩, e1⟩
  · exact ⟨fun n z => ⟨(fun k h => (by cases h)), k2, f2, p2, g2⟩, e2⟩
  · exact ⟨fun n z => ⟨(fun k h => (by cases h)), k3, f3, p3, g3⟩, e3⟩
  · exact ⟨fun n z => ⟨(fun k h => (by cases h)), k4, f4, p4, g4⟩, k4, p4, f4, g4, d4, e4⟩
theorem out_start {s : State} {b : Nat} (hts : ∀ w ∈ lw_tbl, w.before #[Value.ref b] s = true) (hgv : (Jvm.Cond.and given_1 narrow_1).before #[Value.ref b] s = true) : ∃ x : Nat → Nat, x 1000 = b ∧ ∀ E : mE, (∀ k, 1000 ≤ k → mad E k = x k) → mfr E = (fun q => s.heap.size ≤ q) → mX E s s.heap := by
  have hs := flat_of_before _ hgv
  have hA : ∀ a : Nat, a < s.heap.size → ¬ (fun q => s.heap.size ≤ q) a := fun a h z => absurd h (Nat.not_lt.mpr z)
  obtain ⟨adK, adV, hS, hev⟩ := vk_Sof (args := #[Value.ref b]) (s := s) (N := 3) (tm := txT) (len := mTl) (byt := mTx) (A := fun q => s.heap.size ≤ q) (by decide) (fun i hi => hs _ (gv_ex i hi)) (fun i hi => hs _ (gv_co i hi)) (fun i hi => hs _ (gv_ar i hi)) (fun i hi => hs _ (gv_le i hi)) (fun i hi j hj => hs _ (gv_el i hi j hj)) (fun i j hi hj hne => (gv_ne i hi j hj hne).imp (fun h => hs _ h) (fun h => hs _ h)) hA
  obtain ⟨ta, hta, hT⟩ := va_Tof (args := #[Value.ref b]) (s := s) (f := fun j => .int (mAb j)) (A := fun q => s.heap.size ≤ q) (N := 6) (by decide) (hs _ gv_ab.1) (va_eqt (hs _ gv_ab.2)) (fun j hj => va_eqt (hs _ (gv_ae j hj))) hA
  have hZ := va_Zof (A := fun q => s.heap.size ≤ q) (hts (.laysStatic "NoViewWithoutQuarrel" "ABOVE" "[I") (List.mem_of_getElem? (i := 898) (by decide +kernel))) (hts (.initialized "NoViewWithoutQuarrel") (List.mem_of_getElem? (i := 77) (by decide +kernel))) hta hA
  have hC := va_Zof (A := fun q => s.heap.size ≤ q) (hts (.laysStatic "java/lang/String" "COMPACT_STRINGS" "Z") (List.mem_of_getElem? (i := 286) (by decide +kernel))) (hts (.initialized "java/lang/String") (List.mem_of_getElem? (i := 84) (by decide +kernel))) (va_eqt (hs _ gv_cs.1)) hA
  have hF := va_Zqof (A := fun q => s.heap.size ≤ q) (hts (.laysStatic "jdk/internal/util/Preconditions" "SIOOBE_FORMATTER" "Ljava/util/function/BiFunction;") (List.mem_of_getElem? (i := 302) (by decide +kernel))) (hts (.initialized "jdk/internal/util/Preconditions") (List.mem_of_getElem? (i := 86) (by decide +kernel))) (hs _ gv_cs.2) hA
  have r0 : vk_R "NoViewWithoutQuarrel" 56 "heats 5 + word * 3 ; cools 2 ; far anger ;" (adK 0) s := vk_R.of (hts _ (List.mem_of_getElem? (i := 276) (by decide +kernel))) (hev 0 (by decide))
  have r1 : vk_R "NoViewWithoutQuarrel$Reader" 106 "word   anger  number hour   things bench  heats  cools  far    or     and    not    " (adK 1) s := vk_R.of (hts _ (List.mem_of_getElem? (i := 354) (by decide +kernel))) (hev 1 (by decide))
  have r2 : vk_R "NoViewWithoutQuarrel$Reader" 99 "();+-*<=" (adK 2) s := vk_R.of (hts _ (List.mem_of_getElem? (i := 363) (by decide +kernel))) (hev 2 (by decide))
  have fm : ∃ tf : Nat, va_Z "jdk/internal/util/Preconditions" "SIOOBE_FORMATTER" "Ljava/util/function/BiFunction;" .null (fun q => s.heap.size ≤ q) s s.heap ∨ va_Z "jdk/internal/util/Preconditions" "SIOOBE_FORMATTER" "Ljava/util/function/BiFunction;" (.ref tf) (fun q => s.heap.size ≤ q) s s.heap := by
    rcases hF with h | ⟨t, h⟩
    · exact ⟨0, Or.inl h⟩
    · exact ⟨t, Or.inr h⟩
  obtain ⟨tf, hF⟩ := fm
  refine ⟨fun k => if k = 1000 then b else if k = 1001 then ta else if k < 1005 then adK (k - 1002) else if k < 1008 then adV (k - 1005) else tf, rfl, fun E hE hfr => ?_⟩
  have eK : ∀ i, i < 3 → mad E (1002 + i) = adK i := fun i hi => by
    rw [hE (1002 + i) (by omega)]
    show (if 1002 + i = 1000 then b else _) = _
    rw [if_neg (by omega), if_neg (by omega), if_pos (by omega), show 1002 + i - 1002 = i by omega]
  have eV : ∀ i, i < 3 → mad E (1005 + i) = adV i := fun i hi => by
    rw [hE (1005 + i) (by omega)]
    show (if 1005 + i = 1000 then b else _) = _
    rw [if_neg (by omega), if_neg (by omega), if_neg (by omega), if_pos (by omega), show 1005 + i - 1005 = i by omega]
  have e1 : mad E 1001 = ta := hE 1001 (by decide)
  have e8 : mad E 1008 = tf := hE 1008 (by decide)
  unfold mX
  rw [hfr, e1, e8, eK 0 (by decide), eK 1 (by decide), eK 2 (by decide)]
  refine ⟨fun q hq => va_Nw.of rfl (hts _ (tw_nl q hq)), ⟨fun i hi => ?_, fun i j hi hj h => ?_⟩, r0, r1, r2, hZ, hT, hC, hF⟩
  · show va_O "java/lang/String" (mad E (1002 + i)) _ _ _ ∧ va_OF _ _ _ _ (mad E (1002 + i)) _ _ _ ∧ va_OF _ _ _ (.ref (mad E (1005 + i))) (mad E (1002 + i)) _ _ _ ∧ va_T _ (mad E (1005 + i)) _ _ _ _ _
    rw [eK i hi, eV i hi]
    exact hS.1 i hi
  · have h : mad E (1002 + i) = mad E (1002 + j) := h
    rw [eK i hi, eK j hj] at h
    exact hS.2 i j hi hj h
