/-! THE LAYOUT: 0 the class, 1 and 2 its scenes, 3 texts, 4 reader, 5 temper, 6 reach, 7 the sheets (8 .. 11), 12 .. 37 their rows; 38 the reference, 39 .. 57 its rows -/
def mLc : List mK := [.inr (6, [.ref 1, .ref 2, .int 0, .ref 3, .ref 4, .ref 5, .ref 6, .ref 7]), .inr (2, [.ref 12, .ref 13, .ref 14, .ref 15, .ref 16, .int 0, .int 0, .int 0]), .inr (2, [.ref 17, .ref 18, .ref 19, .ref 20, .ref 21, .int 0, .int 0, .int 0]), .inr (5, [.ref 22, .ref 23, .ref 24, .int 0, .int 0]), .inr (1, [.ref 3, .ref 25, .int 0, .int 0, .int 0, .int 0, .int 0, .int 0]), .inr (4, [.ref 3, .ref 26, .int 0, .int 0]), .inr (0, [.ref 27, .ref 28, .ref 29, .ref 30, .ref 31, .ref 32, .ref 33, .int 0]), .inl (4, 4, [some 8, some 9, some 10, some 11]), .inr (3, [.ref 34, .int 0, .int 0]), .inr (3, [.ref 35, .int 0, .int 0]), .inr (3, [.ref 36, .int 0, .int 0]), .inr (3, [.ref 37, .int 0, .int 0]), .inl (0, 40, []), .inl (0, 5, []), .inl (0, 5, []), .inl (0, 5, []), .inl (0, 5, []), .inl (0, 40, []), .inl (0, 5, []), .inl (0, 5, []), .inl (0, 5, []), .inl (0, 5, []), .inl (0, 960, []), .inl (0, 18, []), .inl (0, 160, []), .inl (0, 160, []), .inl (0, 6, []), .inl (0, 100, []), .inl (0, 100, []), .inl (0, 100, []), .inl (0, 100, []), .inl (0, 600, []), .inl (1, 100, []), .inl (1, 100, []), .inl (0, 40, []), .inl (0, 40, []), .inl (0, 40, []), .inl (0, 40, [])]
def mLm : List mK := [.inr (7, [.ref 39, .ref 40, .int 0, .ref 41, .int 0, .int 0, .int 0, .int 0, .int 0, .ref 42, .ref 43, .int 0, .int 0, .ref 44, .ref 45, .int 0, .ref 46, .int 0, .int 0, .int 0, .int 0, .ref 47, .ref 48, .ref 49, .ref 50, .ref 51, .ref 52, .ref 53, .ref 54, .ref 55, .ref 56, .ref 57]), .inl (0, 63, []), .inl (0, 63, []), .inl (0, 160, []), .inl (0, 960, []), .inl (0, 18, []), .inl (2, 72, []), .inl (0, 160, []), .inl (0, 160, []), .inl (0, 600, []), .inl (0, 100, []), .inl (0, 100, []), .inl (3, 100, []), .inl (1, 100, []), .inl (1, 100, []), .inl (0, 4, []), .inl (0, 4, []), .inl (0, 160, []), .inl (0, 40, []), .inl (0, 6, [])]
def hC (E : mE) : Prop := ∃ r, mly E = mLc ++ r
def hM (E : mE) : Prop := mly E = mLc ++ mLm
theorem hM.c {E : mE} (h : hM E) : hC E := ⟨_, h⟩
theorem ly_0 {E : mE} (h : hC E) : (mly E)[0]? = some (.inr (6, [.ref 1, .ref 2, .int 0, .ref 3, .ref 4, .ref 5, .ref 6, .ref 7])) := by obtain ⟨r, e⟩ := h; rw [e]; rfl
theorem ly_1 {E : mE} (h : hC E) : (mly E)[1]? = some (.inr (2, [.ref 12, .ref 13, .ref 14, .ref 15, .ref 16, .int 0, .int 0, .int 0])) := by obtain ⟨r, e⟩ := h; rw [e]; rfl
theorem ly_2 {E : mE} (h : hC E) : (mly E)[2]? = some (.inr (2, [.ref 17, .ref 18, .ref 19, .ref 20, .ref 21, .int 0, .int 0, .int 0])) := by obtain ⟨r, e⟩ := h; rw [e]; rfl
theorem ly_3 {E : mE} (h : hC E) : (mly E)[3]? = some (.inr (5, [.ref 22, .ref 23, .ref 24, .int 0, .int 0])) := by obtain ⟨r, e⟩ := h; rw [e]; rfl
theorem ly_4 {E : mE} (h : hC E) : (mly E)[4]? = some (.inr (1, [.ref 3, .ref 25, .int 0, .int 0, .int 0, .int 0, .int 0, .int 0])) := by obtain ⟨r, e⟩ := h; rw [e]; rfl
theorem ly_5 {E : mE} (h : hC E) : (mly E)[5]? = some (.inr (4, [.ref 3, .ref 26, .int 0, .int 0])) := by obtain ⟨r, e⟩ := h; rw [e]; rfl
theorem ly_6 {E : mE} (h : hC E) : (mly E)[6]? = some (.inr (0, [.ref 27, .ref 28, .ref 29, .ref 30, .ref 31, .ref 32, .ref 33, .int 0])) := by obtain ⟨r, e⟩ := h; rw [e]; rfl
theorem ly_7 {E : mE} (h : hC E) : (mly E)[7]? = some (.inl (4, 4, [some 8, some 9, some 10, some 11])) := by obtain ⟨r, e⟩ := h; rw [e]; rfl
theorem ly_8 {E : mE} (h : hC E) : (mly E)[8]? = some (.inr (3, [.ref 34, .int 0, .int 0])) := by obtain ⟨r, e⟩ := h; rw [e]; rfl
theorem ly_9 {E : mE} (h : hC E) : (mly E)[9]? = some (.inr (3, [.ref 35, .int 0, .int 0])) := by obtain ⟨r, e⟩ := h; rw [e]; rfl
theorem ly_10 {E : mE} (h : hC E) : (mly E)[10]? = some (.inr (3, [.ref 36, .int 0, .int 0])) := by obtain ⟨r, e⟩ := h; rw [e]; rfl
theorem ly_11 {E : mE} (h : hC E) : (mly E)[11]? = some (.inr (3, [.ref 37, .int 0, .int 0])) := by obtain ⟨r, e⟩ := h; rw [e]; rfl
theorem ly_12 {E : mE} (h : hC E) : (mly E)[12]? = some (.inl (0, 40, [])) := by obtain ⟨r, e⟩ := h; rw [e]; rfl
theorem ly_13 {E : mE} (h : hC E) : (mly E)[13]? = some (.inl (0, 5, [])) := by obtain ⟨r, e⟩ := h; rw [e]; rfl
theorem ly_14 {E : mE} (h : hC E) : (mly E)[14]? = some (.inl (0, 5, [])) := by obtain ⟨r, e⟩ := h; rw [e]; rfl
theorem ly_15 {E : mE} (h : hC E) : (mly E)[15]? = some (.inl (0, 5, [])) := by obtain ⟨r, e⟩ := h; rw [e]; rfl
theorem ly_16 {E : mE} (h : hC E) : (mly E)[16]? = some (.inl (0, 5, [])) := by obtain ⟨r, e⟩ := h; rw [e]; rfl
theorem ly_17 {E : mE} (h : hC E) : (mly E)[17]? = some (.inl (0, 40, [])) := by obtain ⟨r, e⟩ := h; rw [e]; rfl
theorem ly_18 {E : mE} (h : hC E) : (mly E)[18]? = some (.inl (0, 5, [])) := by obtain ⟨r, e⟩ := h; rw [e]; rfl
theorem ly_19 {E : mE} (h : hC E) : (mly E)[19]? = some (.inl (0, 5, [])) := by obtain ⟨r, e⟩ := h; rw [e]; rfl
theorem ly_20 {E : mE} (h : hC E) : (mly E)[20]? = some (.inl (0, 5, [])) := by obtain ⟨r, e⟩ := h; rw [e]; rfl
theorem ly_21 {E : mE} (h : hC E) : (mly E)[21]? = some (.inl (0, 5, [])) := by obtain ⟨r, e⟩ := h; rw [e]; rfl
theorem ly_22 {E : mE} (h : hC E) : (mly E)[22]? = some (.inl (0, 960, [])) := by obtain ⟨r, e⟩ := h; rw [e]; rfl
theorem ly_23 {E : mE} (h : hC E) : (mly E)[23]? = some (.inl (0, 18, [])) := by obtain ⟨r, e⟩ := h; rw [e]; rfl
theorem ly_24 {E : mE} (h : hC E) : (mly E)[24]? = some (.inl (0, 160, [])) := by obtain ⟨r, e⟩ := h; rw [e]; rfl
theorem ly_25 {E : mE} (h : hC E) : (mly E)[25]? = some (.inl (0, 160, [])) := by obtain ⟨r, e⟩ := h; rw [e]; rfl
theorem ly_26 {E : mE} (h : hC E) : (mly E)[26]? = some (.inl (0, 6, [])) := by obtain ⟨r, e⟩ := h; rw [e]; rfl
theorem ly_27 {E : mE} (h : hC E) : (mly E)[27]? = some (.inl (0, 100, [])) := by obtain ⟨r, e⟩ := h; rw [e]; rfl
theorem ly_28 {E : mE} (h : hC E) : (mly E)[28]? = some (.inl (0, 100, [])) := by obtain ⟨r, e⟩ := h; rw [e]; rfl
theorem ly_29 {E : mE} (h : hC E) : (mly E)[29]? = some (.inl (0, 100, [])) := by obtain ⟨r, e⟩ := h; rw [e]; rfl
theorem ly_30 {E : mE} (h : hC E) : (mly E)[30]? = some (.inl (0, 100, [])) := by obtain ⟨r, e⟩ := h; rw [e]; rfl
theorem ly_31 {E : mE} (h : hC E) : (mly E)[31]? = some (.inl (0, 600, [])) := by obtain ⟨r, e⟩ := h; rw [e]; rfl
theorem ly_32 {E : mE} (h : hC E) : (mly E)[32]? = some (.inl (1, 100, [])) := by obtain ⟨r, e⟩ := h; rw [e]; rfl
theorem ly_33 {E : mE} (h : hC E) : (mly E)[33]? = some (.inl (1, 100, [])) := by obtain ⟨r, e⟩ := h; rw [e]; rfl
theorem ly_34 {E : mE} (h : hC E) : (mly E)[34]? = some (.inl (0, 40, [])) := by obtain ⟨r, e⟩ := h; rw [e]; rfl
theorem ly_35 {E : mE} (h : hC E) : (mly E)[35]? = some (.inl (0, 40, [])) := by obtain ⟨r, e⟩ := h; rw [e]; rfl
theorem ly_36 {E : mE} (h : hC E) : (mly E)[36]? = some (.inl (0, 40, [])) := by obtain ⟨r, e⟩ := h; rw [e]; rfl
theorem ly_37 {E : mE} (h : hC E) : (mly E)[37]? = some (.inl (0, 40, [])) := by obtain ⟨r, e⟩ := h; rw [e]; rfl
theorem ly_38 {E : mE} (h : hM E) : (mly E)[38]? = some (.inr (7, [.ref 39, .ref 40, .int 0, .ref 41, .int 0, .int 0, .int 0, .int 0, .int 0, .ref 42, .ref 43, .int 0, .int 0, .ref 44, .ref 45, .int 0, .ref 46, .int 0, .int 0, .int 0, .int 0, .ref 47, .ref 48, .ref 49, .ref 50, .ref 51, .ref 52, .ref 53, .ref 54, .ref 55, .ref 56, .ref 57])) := by rw [show mly E = _ from h]; rfl
theorem ly_39 {E : mE} (h : hM E) : (mly E)[39]? = some (.inl (0, 63, [])) := by rw [show mly E = _ from h]; rfl
theorem ly_40 {E : mE} (h : hM E) : (mly E)[40]? = some (.inl (0, 63, [])) := by rw [show mly E = _ from h]; rfl
theorem ly_41 {E : mE} (h : hM E) : (mly E)[41]? = some (.inl (0, 160, [])) := by rw [show mly E = _ from h]; rfl
theorem ly_42 {E : mE} (h : hM E) : (mly E)[42]? = some (.inl (0, 960, [])) := by rw [show mly E = _ from h]; rfl
theorem ly_43 {E : mE} (h : hM E) : (mly E)[43]? = some (.inl (0, 18, [])) := by rw [show mly E = _ from h]; rfl
theorem ly_44 {E : mE} (h : hM E) : (mly E)[44]? = some (.inl (2, 72, [])) := by rw [show mly E = _ from h]; rfl
theorem ly_45 {E : mE} (h : hM E) : (mly E)[45]? = some (.inl (0, 160, [])) := by rw [show mly E = _ from h]; rfl
theorem ly_46 {E : mE} (h : hM E) : (mly E)[46]? = some (.inl (0, 160, [])) := by rw [show mly E = _ from h]; rfl
theorem ly_47 {E : mE} (h : hM E) : (mly E)[47]? = some (.inl (0, 600, [])) := by rw [show mly E = _ from h]; rfl
theorem ly_48 {E : mE} (h : hM E) : (mly E)[48]? = some (.inl (0, 100, [])) := by rw [show mly E = _ from h]; rfl
theorem ly_49 {E : mE} (h : hM E) : (mly E)[49]? = some (.inl (0, 100, [])) := by rw [show mly E = _ from h]; rfl
theorem ly_50 {E : mE} (h : hM E) : (mly E)[50]? = some (.inl (3, 100, [])) := by rw [show mly E = _ from h]; rfl
theorem ly_51 {E : mE} (h : hM E) : (mly E)[51]? = some (.inl (1, 100, [])) := by rw [show mly E = _ from h]; rfl
theorem ly_52 {E : mE} (h : hM E) : (mly E)[52]? = some (.inl (1, 100, [])) := by rw [show mly E = _ from h]; rfl
theorem ly_53 {E : mE} (h : hM E) : (mly E)[53]? = some (.inl (0, 4, [])) := by rw [show mly E = _ from h]; rfl
theorem ly_54 {E : mE} (h : hM E) : (mly E)[54]? = some (.inl (0, 4, [])) := by rw [show mly E = _ from h]; rfl
theorem ly_55 {E : mE} (h : hM E) : (mly E)[55]? = some (.inl (0, 160, [])) := by rw [show mly E = _ from h]; rfl
theorem ly_56 {E : mE} (h : hM E) : (mly E)[56]? = some (.inl (0, 40, [])) := by rw [show mly E = _ from h]; rfl
theorem ly_57 {E : mE} (h : hM E) : (mly E)[57]? = some (.inl (0, 6, [])) := by rw [show mly E = _ from h]; rfl
theorem gdX0 : ∀ w ∈ wsX00, goodWord w = true := by decide +kernel
theorem itX0 : ∀ w ∈ wsX00, w ∈ mTb := fun w h => List.mem_filter.mpr ⟨inX0 w h, gdX0 w h⟩
theorem gdX1 : ∀ w ∈ wsX10, goodWord w = true := by decide +kernel
theorem itX1 : ∀ w ∈ wsX10, w ∈ mTb := fun w h => List.mem_filter.mpr ⟨inX1 w h, gdX1 w h⟩
theorem gdX2 : ∀ w ∈ wsX20, goodWord w = true := by decide +kernel
theorem itX2 : ∀ w ∈ wsX20, w ∈ mTb := fun w h => List.mem_filter.mpr ⟨inX2 w h, gdX2 w h⟩
theorem gdX3 : ∀ w ∈ wsX30, goodWord w = true := by decide +kernel
theorem itX3 : ∀ w ∈ wsX30, w ∈ mTb := fun w h => List.mem_filter.mpr ⟨inX3 w h, gdX3 w h⟩
theorem gdX4 : ∀ w ∈ wsX40, goodWord w = true := by decide +kernel
theorem itX4 : ∀ w ∈ wsX40, w ∈ mTb := fun w h => List.mem_filter.mpr ⟨inX4 w h, gdX4 w h⟩
theorem gdX5 : ∀ w ∈ wsX50, goodWord w = true := by decide +kernel
theorem itX5 : ∀ w ∈ wsX50, w ∈ mTb := fun w h => List.mem_filter.mpr ⟨inX5 w h, gdX5 w h⟩
theorem gdX6 : ∀ w ∈ wsX60, goodWord w = true := by decide +kernel
theorem itX6 : ∀ w ∈ wsX60, w ∈ mTb := fun w h => List.mem_filter.mpr ⟨inX6 w h, gdX6 w h⟩
theorem gdX7 : ∀ w ∈ wsX70, goodWord w = true := by decide +kernel
theorem itX7 : ∀ w ∈ wsX70, w ∈ mTb := fun w h => List.mem_filter.mpr ⟨inX7 w h, gdX7 w h⟩
theorem fl_X6_10 : mFL RX6 10 6 0 := ⟨RX6, TX6, 8, rfl, by decide, itX6, mTb_of 468 (by decide +kernel) rfl⟩
theorem fl_X6_16 : mFL RX6 16 6 1 := ⟨RX6, TX6, 8, rfl, by decide, itX6, mTb_of 469 (by decide +kernel) rfl⟩
theorem fl_X6_22 : mFL RX6 22 6 3 := ⟨RX6, TX6, 8, rfl, by decide, itX6, mTb_of 471 (by decide +kernel) rfl⟩
theorem fl_X6_31 : mFL RX6 31 6 4 := ⟨RX6, TX6, 8, rfl, by decide, itX6, mTb_of 472 (by decide +kernel) rfl⟩
theorem fl_X6_38 : mFL RX6 38 6 5 := ⟨RX6, TX6, 8, rfl, by decide, itX6, mTb_of 473 (by decide +kernel) rfl⟩
theorem fl_X6_45 : mFL RX6 45 6 6 := ⟨RX6, TX6, 8, rfl, by decide, itX6, mTb_of 474 (by decide +kernel) rfl⟩
theorem fl_X6_52 : mFL RX6 52 6 7 := ⟨RX6, TX6, 8, rfl, by decide, itX6, mTb_of 475 (by decide +kernel) rfl⟩
theorem fl_X6_82 : mFL RX6 82 2 0 := ⟨RX2, TX2, 8, rfl, by decide, itX2, mTb_of 109 (by decide +kernel) rfl⟩
theorem fl_X6_90 : mFL RX6 90 2 2 := ⟨RX2, TX2, 8, rfl, by decide, itX2, mTb_of 115 (by decide +kernel) rfl⟩
theorem fl_X6_93 : mFL RX6 93 2 5 := ⟨RX2, TX2, 8, rfl, by decide, itX2, mTb_of 120 (by decide +kernel) rfl⟩
theorem fl_X6_97 : mFL RX6 97 2 3 := ⟨RX2, TX2, 8, rfl, by decide, itX2, mTb_of 117 (by decide +kernel) rfl⟩
theorem fl_X6_104 : mFL RX6 104 2 6 := ⟨RX2, TX2, 8, rfl, by decide, itX2, mTb_of 125 (by decide +kernel) rfl⟩
theorem fl_X6_115 : mFL RX6 115 2 1 := ⟨RX2, TX2, 8, rfl, by decide, itX2, mTb_of 112 (by decide +kernel) rfl⟩
theorem fl_X6_118 : mFL RX6 118 2 4 := ⟨RX2, TX2, 8, rfl, by decide, itX2, mTb_of 119 (by decide +kernel) rfl⟩
theorem fl_X6_144 : mFL RX6 144 1 2 := ⟨RX1, TX1, 8, rfl, by decide, itX1, mTb_of 179 (by decide +kernel) rfl⟩
theorem fl_X6_145 : mFL RX6 145 5 4 := ⟨RX5, TX5, 5, rfl, by decide, itX5, mTb_of 158 (by decide +kernel) rfl⟩
theorem fl_X6_146 : mFL RX6 146 2 7 := ⟨RX2, TX2, 8, rfl, by decide, itX2, mTb_of 128 (by decide +kernel) rfl⟩
theorem fl_X6_223 : mFL RX6 223 0 7 := ⟨RX0, TX0, 8, rfl, by decide, itX0, mTb_of 237 (by decide +kernel) rfl⟩
theorem fl_X6_276 : mFL RX6 276 3 2 := ⟨RX3, TX3, 3, rfl, by decide, itX3, mTb_of 268 (by decide +kernel) rfl⟩
theorem fl_X6_280 : mFL RX6 280 4 3 := ⟨RX4, TX4, 4, rfl, by decide, itX4, mTb_of 213 (by decide +kernel) rfl⟩
theorem fl_X6_287 : mFL RX6 287 4 2 := ⟨RX4, TX4, 4, rfl, by decide, itX4, mTb_of 211 (by decide +kernel) rfl⟩
theorem fl_X6_300 : mFL RX6 300 6 2 := ⟨RX6, TX6, 8, rfl, by decide, itX6, mTb_of 470 (by decide +kernel) rfl⟩
theorem fl_X6_307 : mFL RX6 307 3 1 := ⟨RX3, TX3, 3, rfl, by decide, itX3, mTb_of 266 (by decide +kernel) rfl⟩
theorem fl_X6_313 : mFL RX6 313 3 0 := ⟨RX3, TX3, 3, rfl, by decide, itX3, mTb_of 264 (by decide +kernel) rfl⟩
theorem fl_X0_9 : mFL RX0 9 0 0 := ⟨RX0, TX0, 8, rfl, by decide, itX0, mTb_of 229 (by decide +kernel) rfl⟩
theorem fl_X0_15 : mFL RX0 15 0 1 := ⟨RX0, TX0, 8, rfl, by decide, itX0, mTb_of 230 (by decide +kernel) rfl⟩
theorem fl_X0_18 : mFL RX0 18 0 2 := ⟨RX0, TX0, 8, rfl, by decide, itX0, mTb_of 231 (by decide +kernel) rfl⟩
theorem fl_X0_21 : mFL RX0 21 0 3 := ⟨RX0, TX0, 8, rfl, by decide, itX0, mTb_of 232 (by decide +kernel) rfl⟩
theorem fl_X0_24 : mFL RX0 24 0 4 := ⟨RX0, TX0, 8, rfl, by decide, itX0, mTb_of 233 (by decide +kernel) rfl⟩
theorem fl_X0_27 : mFL RX0 27 0 5 := ⟨RX0, TX0, 8, rfl, by decide, itX0, mTb_of 234 (by decide +kernel) rfl⟩
theorem fl_X0_31 : mFL RX0 31 0 6 := ⟨RX0, TX0, 8, rfl, by decide, itX0, mTb_of 235 (by decide +kernel) rfl⟩
theorem fl_X0_46 : mFL RX0 46 0 7 := ⟨RX0, TX0, 8, rfl, by decide, itX0, mTb_of 236 (by decide +kernel) rfl⟩
theorem fl_X1_9 : mFL RX1 9 1 1 := ⟨RX1, TX1, 8, rfl, by decide, itX1, mTb_of 177 (by decide +kernel) rfl⟩
theorem fl_X1_15 : mFL RX1 15 1 0 := ⟨RX1, TX1, 8, rfl, by decide, itX1, mTb_of 176 (by decide +kernel) rfl⟩
theorem fl_X1_19 : mFL RX1 19 1 2 := ⟨RX1, TX1, 8, rfl, by decide, itX1, mTb_of 178 (by decide +kernel) rfl⟩
theorem fl_X1_27 : mFL RX1 27 1 3 := ⟨RX1, TX1, 8, rfl, by decide, itX1, mTb_of 180 (by decide +kernel) rfl⟩
theorem fl_X1_30 : mFL RX1 30 1 7 := ⟨RX1, TX1, 8, rfl, by decide, itX1, mTb_of 184 (by decide +kernel) rfl⟩
theorem fl_X1_52 : mFL RX1 52 1 5 := ⟨RX1, TX1, 8, rfl, by decide, itX1, mTb_of 182 (by decide +kernel) rfl⟩
theorem fl_X1_58 : mFL RX1 58 1 4 := ⟨RX1, TX1, 8, rfl, by decide, itX1, mTb_of 181 (by decide +kernel) rfl⟩
theorem fl_X1_81 : mFL RX1 81 1 6 := ⟨RX1, TX1, 8, rfl, by decide, itX1, mTb_of 183 (by decide +kernel) rfl⟩
theorem fl_X2_9 : mFL RX2 9 2 0 := ⟨RX2, TX2, 8, rfl, by decide, itX2, mTb_of 108 (by decide +kernel) rfl⟩
theorem fl_X2_15 : mFL RX2 15 2 1 := ⟨RX2, TX2, 8, rfl, by decide, itX2, mTb_of 110 (by decide +kernel) rfl⟩
theorem fl_X2_18 : mFL RX2 18 2 2 := ⟨RX2, TX2, 8, rfl, by decide, itX2, mTb_of 113 (by decide +kernel) rfl⟩
theorem fl_X2_21 : mFL RX2 21 2 3 := ⟨RX2, TX2, 8, rfl, by decide, itX2, mTb_of 116 (by decide +kernel) rfl⟩
theorem fl_X2_24 : mFL RX2 24 2 4 := ⟨RX2, TX2, 8, rfl, by decide, itX2, mTb_of 118 (by decide +kernel) rfl⟩
theorem fl_X2_33 : mFL RX2 33 2 5 := ⟨RX2, TX2, 8, rfl, by decide, itX2, mTb_of 122 (by decide +kernel) rfl⟩
theorem fl_X2_37 : mFL RX2 37 2 6 := ⟨RX2, TX2, 8, rfl, by decide, itX2, mTb_of 124 (by decide +kernel) rfl⟩
theorem fl_X2_40 : mFL RX2 40 2 7 := ⟨RX2, TX2, 8, rfl, by decide, itX2, mTb_of 127 (by decide +kernel) rfl⟩
theorem fl_X3_9 : mFL RX3 9 3 0 := ⟨RX3, TX3, 3, rfl, by decide, itX3, mTb_of 263 (by decide +kernel) rfl⟩
theorem fl_X3_15 : mFL RX3 15 3 1 := ⟨RX3, TX3, 3, rfl, by decide, itX3, mTb_of 265 (by decide +kernel) rfl⟩
theorem fl_X3_23 : mFL RX3 23 3 2 := ⟨RX3, TX3, 3, rfl, by decide, itX3, mTb_of 267 (by decide +kernel) rfl⟩
theorem fl_X4_9 : mFL RX4 9 4 1 := ⟨RX4, TX4, 4, rfl, by decide, itX4, mTb_of 209 (by decide +kernel) rfl⟩
theorem fl_X4_15 : mFL RX4 15 4 0 := ⟨RX4, TX4, 4, rfl, by decide, itX4, mTb_of 208 (by decide +kernel) rfl⟩
theorem fl_X4_25 : mFL RX4 25 2 7 := ⟨RX2, TX2, 8, rfl, by decide, itX2, mTb_of 126 (by decide +kernel) rfl⟩
theorem fl_X4_29 : mFL RX4 29 4 2 := ⟨RX4, TX4, 4, rfl, by decide, itX4, mTb_of 210 (by decide +kernel) rfl⟩
theorem fl_X4_30 : mFL RX4 30 2 1 := ⟨RX2, TX2, 8, rfl, by decide, itX2, mTb_of 111 (by decide +kernel) rfl⟩
theorem fl_X4_33 : mFL RX4 33 4 3 := ⟨RX4, TX4, 4, rfl, by decide, itX4, mTb_of 212 (by decide +kernel) rfl⟩
theorem fl_X4_36 : mFL RX4 36 2 2 := ⟨RX2, TX2, 8, rfl, by decide, itX2, mTb_of 114 (by decide +kernel) rfl⟩
theorem fl_X4_39 : mFL RX4 39 2 6 := ⟨RX2, TX2, 8, rfl, by decide, itX2, mTb_of 123 (by decide +kernel) rfl⟩
theorem fl_X4_52 : mFL RX4 52 2 5 := ⟨RX2, TX2, 8, rfl, by decide, itX2, mTb_of 121 (by decide +kernel) rfl⟩
theorem fl_X5_9 : mFL RX5 9 5 0 := ⟨RX5, TX5, 5, rfl, by decide, itX5, mTb_of 153 (by decide +kernel) rfl⟩
theorem fl_X5_15 : mFL RX5 15 5 1 := ⟨RX5, TX5, 5, rfl, by decide, itX5, mTb_of 154 (by decide +kernel) rfl⟩
theorem fl_X5_18 : mFL RX5 18 5 2 := ⟨RX5, TX5, 5, rfl, by decide, itX5, mTb_of 155 (by decide +kernel) rfl⟩
theorem fl_X5_21 : mFL RX5 21 5 3 := ⟨RX5, TX5, 5, rfl, by decide, itX5, mTb_of 156 (by decide +kernel) rfl⟩
theorem fl_X5_25 : mFL RX5 25 5 4 := ⟨RX5, TX5, 5, rfl, by decide, itX5, mTb_of 157 (by decide +kernel) rfl⟩
theorem fl_X7_7 : mFL RX7 7 7 0 := ⟨RX7, TX7, 32, rfl, by decide, itX7, mTb_of 909 (by decide +kernel) rfl⟩
theorem fl_X7_13 : mFL RX7 13 7 1 := ⟨RX7, TX7, 32, rfl, by decide, itX7, mTb_of 910 (by decide +kernel) rfl⟩
theorem fl_X7_16 : mFL RX7 16 7 3 := ⟨RX7, TX7, 32, rfl, by decide, itX7, mTb_of 912 (by decide +kernel) rfl⟩
theorem fl_X7_19 : mFL RX7 19 7 9 := ⟨RX7, TX7, 32, rfl, by decide, itX7, mTb_of 918 (by decide +kernel) rfl⟩
theorem fl_X7_22 : mFL RX7 22 7 10 := ⟨RX7, TX7, 32, rfl, by decide, itX7, mTb_of 919 (by decide +kernel) rfl⟩
theorem fl_X7_29 : mFL RX7 29 7 11 := ⟨RX7, TX7, 32, rfl, by decide, itX7, mTb_of 920 (by decide +kernel) rfl⟩
theorem fl_X7_33 : mFL RX7 33 7 13 := ⟨RX7, TX7, 32, rfl, by decide, itX7, mTb_of 922 (by decide +kernel) rfl⟩
theorem fl_X7_37 : mFL RX7 37 7 14 := ⟨RX7, TX7, 32, rfl, by decide, itX7, mTb_of 923 (by decide +kernel) rfl⟩
theorem fl_X7_40 : mFL RX7 40 7 16 := ⟨RX7, TX7, 32, rfl, by decide, itX7, mTb_of 925 (by decide +kernel) rfl⟩
theorem fl_X7_43 : mFL RX7 43 7 21 := ⟨RX7, TX7, 32, rfl, by decide, itX7, mTb_of 930 (by decide +kernel) rfl⟩
theorem fl_X7_46 : mFL RX7 46 7 22 := ⟨RX7, TX7, 32, rfl, by decide, itX7, mTb_of 931 (by decide +kernel) rfl⟩
theorem fl_X7_49 : mFL RX7 49 7 23 := ⟨RX7, TX7, 32, rfl, by decide, itX7, mTb_of 932 (by decide +kernel) rfl⟩
theorem fl_X7_52 : mFL RX7 52 7 24 := ⟨RX7, TX7, 32, rfl, by decide, itX7, mTb_of 933 (by decide +kernel) rfl⟩
theorem fl_X7_56 : mFL RX7 56 7 25 := ⟨RX7, TX7, 32, rfl, by decide, itX7, mTb_of 934 (by decide +kernel) rfl⟩
theorem fl_X7_60 : mFL RX7 60 7 26 := ⟨RX7, TX7, 32, rfl, by decide, itX7, mTb_of 935 (by decide +kernel) rfl⟩
theorem fl_X7_63 : mFL RX7 63 7 27 := ⟨RX7, TX7, 32, rfl, by decide, itX7, mTb_of 936 (by decide +kernel) rfl⟩
theorem fl_X7_66 : mFL RX7 66 7 28 := ⟨RX7, TX7, 32, rfl, by decide, itX7, mTb_of 937 (by decide +kernel) rfl⟩
theorem fl_X7_69 : mFL RX7 69 7 29 := ⟨RX7, TX7, 32, rfl, by decide, itX7, mTb_of 938 (by decide +kernel) rfl⟩
theorem fl_X7_72 : mFL RX7 72 7 30 := ⟨RX7, TX7, 32, rfl, by decide, itX7, mTb_of 939 (by decide +kernel) rfl⟩
theorem fl_X7_75 : mFL RX7 75 7 31 := ⟨RX7, TX7, 32, rfl, by decide, itX7, mTb_of 940 (by decide +kernel) rfl⟩
theorem fl_X7_119 : mFL RX7 119 7 4 := ⟨RX7, TX7, 32, rfl, by decide, itX7, mTb_of 913 (by decide +kernel) rfl⟩
theorem fl_X7_122 : mFL RX7 122 7 5 := ⟨RX7, TX7, 32, rfl, by decide, itX7, mTb_of 914 (by decide +kernel) rfl⟩
theorem fl_X7_125 : mFL RX7 125 7 6 := ⟨RX7, TX7, 32, rfl, by decide, itX7, mTb_of 915 (by decide +kernel) rfl⟩
theorem fl_X7_131 : mFL RX7 131 7 7 := ⟨RX7, TX7, 32, rfl, by decide, itX7, mTb_of 916 (by decide +kernel) rfl⟩
theorem fl_X7_134 : mFL RX7 134 7 12 := ⟨RX7, TX7, 32, rfl, by decide, itX7, mTb_of 921 (by decide +kernel) rfl⟩
theorem fl_X7_137 : mFL RX7 137 7 15 := ⟨RX7, TX7, 32, rfl, by decide, itX7, mTb_of 924 (by decide +kernel) rfl⟩
theorem fl_X7_149 : mFL RX7 149 7 8 := ⟨RX7, TX7, 32, rfl, by decide, itX7, mTb_of 917 (by decide +kernel) rfl⟩
theorem fl_X7_187 : mFL RX7 187 7 19 := ⟨RX7, TX7, 32, rfl, by decide, itX7, mTb_of 928 (by decide +kernel) rfl⟩
theorem fl_X7_190 : mFL RX7 190 7 18 := ⟨RX7, TX7, 32, rfl, by decide, itX7, mTb_of 927 (by decide +kernel) rfl⟩
theorem fl_X7_193 : mFL RX7 193 7 20 := ⟨RX7, TX7, 32, rfl, by decide, itX7, mTb_of 929 (by decide +kernel) rfl⟩
theorem fl_X7_200 : mFL RX7 200 7 17 := ⟨RX7, TX7, 32, rfl, by decide, itX7, mTb_of 926 (by decide +kernel) rfl⟩
theorem fl_X7_278 : mFL RX7 278 7 2 := ⟨RX7, TX7, 32, rfl, by decide, itX7, mTb_of 911 (by decide +kernel) rfl⟩
theorem fp_0_7 : mFP 0 7 .int := ⟨RX0, TX0, 8, tyX0, rfl, tyX0_ok, nmX0, rfl, by decide +kernel⟩
theorem fp_1_2 : mFP 1 2 .int := ⟨RX1, TX1, 8, tyX1, rfl, tyX1_ok, nmX1, rfl, by decide +kernel⟩
theorem fp_1_3 : mFP 1 3 .int := ⟨RX1, TX1, 8, tyX1, rfl, tyX1_ok, nmX1, rfl, by decide +kernel⟩
theorem fp_1_4 : mFP 1 4 .int := ⟨RX1, TX1, 8, tyX1, rfl, tyX1_ok, nmX1, rfl, by decide +kernel⟩
theorem fp_1_5 : mFP 1 5 .int := ⟨RX1, TX1, 8, tyX1, rfl, tyX1_ok, nmX1, rfl, by decide +kernel⟩
theorem fp_1_6 : mFP 1 6 .int := ⟨RX1, TX1, 8, tyX1, rfl, tyX1_ok, nmX1, rfl, by decide +kernel⟩
theorem fp_1_7 : mFP 1 7 .int := ⟨RX1, TX1, 8, tyX1, rfl, tyX1_ok, nmX1, rfl, by decide +kernel⟩
theorem fp_2_5 : mFP 2 5 .int := ⟨RX2, TX2, 8, tyX2, rfl, tyX2_ok, nmX2, rfl, by decide +kernel⟩
theorem fp_2_6 : mFP 2 6 .int := ⟨RX2, TX2, 8, tyX2, rfl, tyX2_ok, nmX2, rfl, by decide +kernel⟩
theorem fp_2_7 : mFP 2 7 .int := ⟨RX2, TX2, 8, tyX2, rfl, tyX2_ok, nmX2, rfl, by decide +kernel⟩
theorem fp_3_1 : mFP 3 1 .int := ⟨RX3, TX3, 3, tyX3, rfl, tyX3_ok, nmX3, rfl, by decide +kernel⟩
theorem fp_3_2 : mFP 3 2 .int := ⟨RX3, TX3, 3, tyX3, rfl, tyX3_ok, nmX3, rfl, by decide +kernel⟩
theorem fp_4_2 : mFP 4 2 .int := ⟨RX4, TX4, 4, tyX4, rfl, tyX4_ok, nmX4, rfl, by decide +kernel⟩
theorem fp_4_3 : mFP 4 3 .int := ⟨RX4, TX4, 4, tyX4, rfl, tyX4_ok, nmX4, rfl, by decide +kernel⟩
theorem fp_5_3 : mFP 5 3 .int := ⟨RX5, TX5, 5, tyX5, rfl, tyX5_ok, nmX5, rfl, by decide +kernel⟩
theorem fp_5_4 : mFP 5 4 .int := ⟨RX5, TX5, 5, tyX5, rfl, tyX5_ok, nmX5, rfl, by decide +kernel⟩
theorem fp_6_2 : mFP 6 2 .boolean := ⟨RX6, TX6, 8, tyX6, rfl, tyX6_ok, nmX6, rfl, by decide +kernel⟩
theorem fp_7_2 : mFP 7 2 .boolean := ⟨RX7, TX7, 32, tyX7, rfl, tyX7_ok, nmX7, rfl, by decide +kernel⟩
theorem fp_7_4 : mFP 7 4 .int := ⟨RX7, TX7, 32, tyX7, rfl, tyX7_ok, nmX7, rfl, by decide +kernel⟩
theorem fp_7_5 : mFP 7 5 .int := ⟨RX7, TX7, 32, tyX7, rfl, tyX7_ok, nmX7, rfl, by decide +kernel⟩
theorem fp_7_6 : mFP 7 6 .int := ⟨RX7, TX7, 32, tyX7, rfl, tyX7_ok, nmX7, rfl, by decide +kernel⟩
theorem fp_7_7 : mFP 7 7 .int := ⟨RX7, TX7, 32, tyX7, rfl, tyX7_ok, nmX7, rfl, by decide +kernel⟩
theorem fp_7_8 : mFP 7 8 .int := ⟨RX7, TX7, 32, tyX7, rfl, tyX7_ok, nmX7, rfl, by decide +kernel⟩
theorem fp_7_11 : mFP 7 11 .int := ⟨RX7, TX7, 32, tyX7, rfl, tyX7_ok, nmX7, rfl, by decide +kernel⟩
theorem fp_7_12 : mFP 7 12 .int := ⟨RX7, TX7, 32, tyX7, rfl, tyX7_ok, nmX7, rfl, by decide +kernel⟩
theorem fp_7_15 : mFP 7 15 .int := ⟨RX7, TX7, 32, tyX7, rfl, tyX7_ok, nmX7, rfl, by decide +kernel⟩
theorem fp_7_17 : mFP 7 17 .int := ⟨RX7, TX7, 32, tyX7, rfl, tyX7_ok, nmX7, rfl, by decide +kernel⟩
theorem fp_7_18 : mFP 7 18 .int := ⟨RX7, TX7, 32, tyX7, rfl, tyX7_ok, nmX7, rfl, by decide +kernel⟩
theorem fp_7_19 : mFP 7 19 .int := ⟨RX7, TX7, 32, tyX7, rfl, tyX7_ok, nmX7, rfl, by decide +kernel⟩
theorem fp_7_20 : mFP 7 20 .int := ⟨RX7, TX7, 32, tyX7, rfl, tyX7_ok, nmX7, rfl, by decide +kernel⟩
abbrev mm_J0_length_8abf5 : mM := (yJ0_length_8abf5, cJ0_length_8abf5, 1, (some .int))
abbrev mm_J0_coder_7d493 : mM := (yJ0_coder_7d493, cJ0_coder_7d493, 1, (some .byte))
abbrev mm_J0_charAt_5068e : mM := (yJ0_charAt_5068e, cJ0_charAt_5068e, 2, (some .char))
abbrev mm_J0_isLatin1_aae02 : mM := (yJ0_isLatin1_aae02, cJ0_isLatin1_aae02, 1, (some .boolean))
abbrev mm_J1_charAt_3b067 : mM := (yJ1_charAt_3b067, cJ1_charAt_3b067, 2, (some .char))
abbrev mm_J0_checkIndex_df160 : mM := (yJ0_checkIndex_df160, cJ0_checkIndex_df160, 2, none)
abbrev mm_J3_checkIndex_8e157 : mM := (yJ3_checkIndex_8e157, cJ3_checkIndex_8e157, 3, (some .int))
abbrev mm_J2_charAt_3b067 : mM := (yJ2_charAt_3b067, cJ2_charAt_3b067, 2, (some .char))
abbrev mm_J2_checkIndex_2214a : mM := (yJ2_checkIndex_2214a, cJ2_checkIndex_2214a, 2, none)
abbrev mm_J2_length_9d52b : mM := (yJ2_length_9d52b, cJ2_length_9d52b, 1, (some .int))
abbrev mm_J2_getChar_3b067 : mM := (yJ2_getChar_3b067, cJ2_getChar_3b067, 2, (some .char))
abbrev mm_X1_put : mM := (yX1_put, cX1_put, 2, (some .boolean))
abbrev mm_X6_within : mM := (yX6_within, cX6_within, 2, (some .boolean))
abbrev mm_X1_read : mM := (yX1_read, cX1_read, 2, (some .int))
abbrev mm_X5_begin : mM := (yX5_begin, cX5_begin, 1, none)
abbrev mm_X1_advance : mM := (yX1_advance, cX1_advance, 1, none)
abbrev mm_X1_isBlank : mM := (yX1_isBlank, cX1_isBlank, 1, (some .boolean))
abbrev mm_X1_isLetter : mM := (yX1_isLetter, cX1_isLetter, 1, (some .boolean))
abbrev mm_X1_readSpelled : mM := (yX1_readSpelled, cX1_readSpelled, 4, none)
abbrev mm_X1_isDigit : mM := (yX1_isDigit, cX1_isDigit, 1, (some .boolean))
abbrev mm_X1_readNumber : mM := (yX1_readNumber, cX1_readNumber, 1, none)
abbrev mm_J0_indexOf_0f7a4 : mM := (yJ0_indexOf_0f7a4, cJ0_indexOf_0f7a4, 2, (some .int))
abbrev mm_J0_indexOf_7cf53 : mM := (yJ0_indexOf_7cf53, cJ0_indexOf_7cf53, 3, (some .int))
abbrev mm_J1_indexOf_4cfef : mM := (yJ1_indexOf_4cfef, cJ1_indexOf_4cfef, 4, (some .int))
abbrev mm_J1_canEncode_9a6ad : mM := (yJ1_canEncode_9a6ad, cJ1_canEncode_9a6ad, 1, (some .boolean))
abbrev mm_J9_max_7cf53 : mM := (yJ9_max_7cf53, cJ9_max_7cf53, 2, (some .int))
abbrev mm_J9_min_7cf53 : mM := (yJ9_min_7cf53, cJ9_min_7cf53, 2, (some .int))
abbrev mm_J1_indexOfChar_4cfef : mM := (yJ1_indexOfChar_4cfef, cJ1_indexOfChar_4cfef, 6, (some .int))
abbrev mm_J2_indexOf_4cfef : mM := (yJ2_indexOf_4cfef, cJ2_indexOf_4cfef, 4, (some .int))
abbrev mm_J2_indexOfChar_4cfef : mM := (yJ2_indexOfChar_4cfef, cJ2_indexOfChar_4cfef, 4, (some .int))
abbrev mm_J2_checkBoundsBeginEnd_d044e : mM := (yJ2_checkBoundsBeginEnd_d044e, cJ2_checkBoundsBeginEnd_d044e, 3, none)
abbrev mm_J0_checkBoundsBeginEnd_23922 : mM := (yJ0_checkBoundsBeginEnd_23922, cJ0_checkBoundsBeginEnd_23922, 3, none)
abbrev mm_J3_checkFromToIndex_8c36e : mM := (yJ3_checkFromToIndex_8c36e, cJ3_checkFromToIndex_8c36e, 4, (some .int))
abbrev mm_J2_indexOfCharUnsafe_4cfef : mM := (yJ2_indexOfCharUnsafe_4cfef, cJ2_indexOfCharUnsafe_4cfef, 5, (some .int))
abbrev mm_J2_indexOfSupplementary_4cfef : mM := (yJ2_indexOfSupplementary_4cfef, cJ2_indexOfSupplementary_4cfef, 7, (some .int))
abbrev mm_J11_isValidCodePoint_9a6ad : mM := (yJ11_isValidCodePoint_9a6ad, cJ11_isValidCodePoint_9a6ad, 2, (some .boolean))
abbrev mm_J11_highSurrogate_5068e : mM := (yJ11_highSurrogate_5068e, cJ11_highSurrogate_5068e, 1, (some .char))
abbrev mm_J11_lowSurrogate_5068e : mM := (yJ11_lowSurrogate_5068e, cJ11_lowSurrogate_5068e, 1, (some .char))
abbrev mm_X1_need : mM := (yX1_need, cX1_need, 2, none)
abbrev mm_X1_refuse : mM := (yX1_refuse, cX1_refuse, 1, none)
abbrev mm_X1_chain : mM := (yX1_chain, cX1_chain, 5, none)
abbrev mm_X1_link : mM := (yX1_link, cX1_link, 3, none)
abbrev mm_X1_one : mM := (yX1_one, cX1_one, 2, none)
abbrev mm_X5_add : mM := (yX5_add, cX5_add, 2, none)
abbrev mm_X1_denial : mM := (yX1_denial, cX1_denial, 3, none)
abbrev mm_X1_stepOf : mM := (yX1_stepOf, cX1_stepOf, 1, (some .int))
abbrev mm_X1_joins : mM := (yX1_joins, cX1_joins, 2, (some .boolean))
abbrev mm_X5_endPart : mM := (yX5_endPart, cX5_endPart, 2, none)
abbrev mm_X5_keep : mM := (yX5_keep, cX5_keep, 1, (some .int))
abbrev mm_X6_set : mM := (yX6_set, cX6_set, 4, (some .int))
abbrev mm_X6_turnHour : mM := (yX6_turnHour, cX6_turnHour, 3, (some .int))
abbrev mm_X6_change : mM := (yX6_change, cX6_change, 6, (some .int))
abbrev mm_X6_pair : mM := (yX6_pair, cX6_pair, 4, (some .int))
abbrev mm_X2_seat : mM := (yX2_seat, cX2_seat, 4, (some .int))
abbrev mm_X6_told : mM := (yX6_told, cX6_told, 3, (some .int))
abbrev mm_X6_item : mM := (yX6_item, cX6_item, 3, (some .int))
abbrev mm_X6_felt : mM := (yX6_felt, cX6_felt, 4, (some .int))
abbrev mm_X2_has : mM := (yX2_has, cX2_has, 2, (some .boolean))
abbrev mm_X4_of : mM := (yX4_of, cX4_of, 3, none)
abbrev mm_X2_milesWithThing : mM := (yX2_milesWithThing, cX2_milesWithThing, 4, (some .long))
abbrev mm_J13_bitCount_95d88 : mM := (yJ13_bitCount_95d88, cJ13_bitCount_95d88, 2, (some .int))
abbrev mm_X2_angerOf : mM := (yX2_angerOf, cX2_angerOf, 2, (some .int))
abbrev mm_X4_cools : mM := (yX4_cools, cX4_cools, 3, (some .int))
abbrev mm_X5_worth : mM := (yX5_worth, cX5_worth, 8, (some .int))
abbrev mm_X5_joined : mM := (yX5_joined, cX5_joined, 3, (some .int))
abbrev mm_X6_bounded : mM := (yX6_bounded, cX6_bounded, 3, (some .int))
abbrev mm_X4_coolsOfKind : mM := (yX4_coolsOfKind, cX4_coolsOfKind, 3, (some .int))
abbrev mm_X4_far : mM := (yX4_far, cX4_far, 3, (some .int))
abbrev mm_X4_farOfKind : mM := (yX4_farOfKind, cX4_farOfKind, 3, (some .int))
abbrev mm_X4_heats : mM := (yX4_heats, cX4_heats, 4, (some .int))
abbrev mm_X4_heatsOfKind : mM := (yX4_heatsOfKind, cX4_heatsOfKind, 4, (some .int))
abbrev mm_X4_heatsOfWed : mM := (yX4_heatsOfWed, cX4_heatsOfWed, 3, (some .int))
abbrev mm_X6_feed : mM := (yX6_feed, cX6_feed, 2, (some .int))
abbrev mm_X6_text : mM := (yX6_text, cX6_text, 2, (some .int))
abbrev mm_X6_force : mM := (yX6_force, cX6_force, 3, (some .int))
abbrev mm_X6_say : mM := (yX6_say, cX6_say, 4, (some .int))
abbrev mm_X4_heated : mM := (yX4_heated, cX4_heated, 3, (some .int))
abbrev mm_X2_hear : mM := (yX2_hear, cX2_hear, 3, none)
abbrev mm_X6_quiet : mM := (yX6_quiet, cX6_quiet, 4, (some .int))
abbrev mm_X6_cooledFor : mM := (yX6_cooledFor, cX6_cooledFor, 5, (some .int))
abbrev mm_X4_cooled : mM := (yX4_cooled, cX4_cooled, 2, (some .int))
abbrev mm_X6_view : mM := (yX6_view, cX6_view, 3, (some .int))
abbrev mm_X6_furthest : mM := (yX6_furthest, cX6_furthest, 2, (some .int))
abbrev mm_X6_furthestPair : mM := (yX6_furthestPair, cX6_furthestPair, 5, (some .int))
abbrev mm_X6_farNow : mM := (yX6_farNow, cX6_farNow, 2, (some .int))
abbrev mm_X6_milesBelow : mM := (yX6_milesBelow, cX6_milesBelow, 1, (some .long))
abbrev mm_X2_furthestThing : mM := (yX2_furthestThing, cX2_furthestThing, 3, (some .int))
abbrev mm_X2_furthestMileWithThing : mM := (yX2_furthestMileWithThing, cX2_furthestMileWithThing, 3, (some .int))
abbrev mm_X6_nearest : mM := (yX6_nearest, cX6_nearest, 7, (some .int))
abbrev mm_X0_spread : mM := (yX0_spread, cX0_spread, 8, none)
abbrev mm_J7_fill_53178 : mM := (yJ7_fill_53178, cJ7_fill_53178, 4, none)
abbrev mm_X0_meet : mM := (yX0_meet, cX0_meet, 4, none)
abbrev mm_X0_first : mM := (yX0_first, cX0_first, 4, (some .int))
abbrev mm_X0_wordsTo : mM := (yX0_wordsTo, cX0_wordsTo, 2, (some .int))
abbrev mm_X6_clear : mM := (yX6_clear, cX6_clear, 2, (some .long))
abbrev mm_X6_furthestReached : mM := (yX6_furthestReached, cX6_furthestReached, 3, (some .int))
abbrev mm_X0_furthest : mM := (yX0_furthest, cX0_furthest, 4, (some .int))
abbrev mm_X6_fewest : mM := (yX6_fewest, cX6_fewest, 5, (some .int))
abbrev mm_X0_rowTo : mM := (yX0_rowTo, cX0_rowTo, 7, (some .int))
abbrev mm_X6_words : mM := (yX6_words, cX6_words, 3, (some .int))
abbrev mm_X0_least : mM := (yX0_least, cX0_least, 3, (some .int))
abbrev mm_X0_most : mM := (yX0_most, cX0_most, 3, (some .int))
abbrev mm_X6_bestWord : mM := (yX6_bestWord, cX6_bestWord, 4, (some .int))
abbrev mm_X6_farBehind : mM := (yX6_farBehind, cX6_farBehind, 3, (some .int))
abbrev mm_X6_stays : mM := (yX6_stays, cX6_stays, 5, (some .int))
abbrev mm_X6_rows : mM := (yX6_rows, cX6_rows, 8, (some .long))
abbrev mm_X0_rowsTo : mM := (yX0_rowsTo, cX0_rowsTo, 7, (some .long))
abbrev mm_J7_fill_d0a16 : mM := (yJ7_fill_d0a16, cJ7_fill_d0a16, 5, none)
abbrev mm_X0_sayOneMore : mM := (yX0_sayOneMore, cX0_sayOneMore, 5, none)
abbrev mm_X6_lowest : mM := (yX6_lowest, cX6_lowest, 7, (some .long))
abbrev mm_X6_commonDivisor : mM := (yX6_commonDivisor, cX6_commonDivisor, 11, (some .long))
abbrev mm_X6_whom : mM := (yX6_whom, cX6_whom, 3, (some .int))
abbrev mm_X6_tells : mM := (yX6_tells, cX6_tells, 6, (some .int))
abbrev mm_X3_missing : mM := (yX3_missing, cX3_missing, 1, (some .boolean))
abbrev mm_X6_firstOtherwise : mM := (yX6_firstOtherwise, cX6_firstOtherwise, 5, (some .int))
abbrev mm_X3_at : mM := (yX3_at, cX3_at, 2, (some .int))
abbrev mm_X6_fittingKinds : mM := (yX6_fittingKinds, cX6_fittingKinds, 5, (some .int))
abbrev mm_X6_fittingNumbers : mM := (yX6_fittingNumbers, cX6_fittingNumbers, 5, (some .int))
abbrev mm_X4_renumber : mM := (yX4_renumber, cX4_renumber, 2, none)
abbrev mm_X6_fittingAngers : mM := (yX6_fittingAngers, cX6_fittingAngers, 4, (some .int))
abbrev mm_X6_leastFittingAnger : mM := (yX6_leastFittingAnger, cX6_leastFittingAnger, 3, (some .int))
abbrev mm_X6_fittingTexts : mM := (yX6_fittingTexts, cX6_fittingTexts, 5, (some .int))
abbrev mm_X6_fittingWords : mM := (yX6_fittingWords, cX6_fittingWords, 5, (some .int))
abbrev mm_X6_fittingPairs : mM := (yX6_fittingPairs, cX6_fittingPairs, 4, (some .int))
abbrev mm_X6_film : mM := (yX6_film, cX6_film, 7, (some .int))
abbrev mm_X3_become : mM := (yX3_become, cX3_become, 3, none)
abbrev mm_X3_put : mM := (yX3_put, cX3_put, 3, (some .boolean))
abbrev mm_X3_cut : mM := (yX3_cut, cX3_cut, 2, (some .int))
abbrev mm_X6_drawn : mM := (yX6_drawn, cX6_drawn, 4, (some .int))
abbrev mm_X6_farDrawn : mM := (yX6_farDrawn, cX6_farDrawn, 7, (some .int))
abbrev mm_X6_chance : mM := (yX6_chance, cX6_chance, 8, (some .long))
abbrev mm_X6_image : mM := (yX6_image, cX6_image, 1, (some .int))
abbrev mm_X2_become : mM := (yX2_become, cX2_become, 2, none)
abbrev mm_X6_back : mM := (yX6_back, cX6_back, 1, (some .int))
abbrev mm_X6_count : mM := (yX6_count, cX6_count, 2, (some .int))
abbrev mm_X2_toldOfAll : mM := (yX2_toldOfAll, cX2_toldOfAll, 3, (some .int))
abbrev mm_X6_sheet : mM := (yX6_sheet, cX6_sheet, 4, (some .int))
abbrev mm_X6_cell : mM := (yX6_cell, cX6_cell, 4, (some .int))
abbrev mm_X6_copy : mM := (yX6_copy, cX6_copy, 8, (some .int))
abbrev mm_X3_holds : mM := (yX3_holds, cX3_holds, 3, (some .boolean))
abbrev mm_X6_pairs : mM := (yX6_pairs, cX6_pairs, 9, (some .int))
abbrev mm_X6_taken : mM := (yX6_taken, cX6_taken, 3, (some .int))
abbrev mm_X6_isUnder : mM := (yX6_isUnder, cX6_isUnder, 4, (some .boolean))
abbrev mm_X7_firstText : mM := (yX7_firstText, cX7_firstText, 3, (some .int))
abbrev mm_X7_set : mM := (yX7_set, cX7_set, 5, (some .int))
abbrev mm_X7_isIn : mM := (yX7_isIn, cX7_isIn, 3, (some .boolean))
abbrev mm_X7_most : mM := (yX7_most, cX7_most, 1, (some .int))
abbrev mm_X7_place : mM := (yX7_place, cX7_place, 3, (some .int))
abbrev mm_X7_isPair : mM := (yX7_isPair, cX7_isPair, 2, (some .boolean))
abbrev mm_X7_pair : mM := (yX7_pair, cX7_pair, 5, (some .int))
abbrev mm_X7_many : mM := (yX7_many, cX7_many, 1, (some .int))
abbrev mm_X7_told : mM := (yX7_told, cX7_told, 4, (some .int))
abbrev mm_X7_take : mM := (yX7_take, cX7_take, 2, none)
abbrev mm_X7_kind : mM := (yX7_kind, cX7_kind, 2, (some .int))
abbrev mm_X7_number : mM := (yX7_number, cX7_number, 2, (some .int))
abbrev mm_X7_things : mM := (yX7_things, cX7_things, 3, (some .int))
abbrev mm_X7_anger : mM := (yX7_anger, cX7_anger, 2, (some .int))
abbrev mm_X7_cools : mM := (yX7_cools, cX7_cools, 3, (some .int))
abbrev mm_X7_tell : mM := (yX7_tell, cX7_tell, 10, (some .int))
abbrev mm_X7_yes : mM := (yX7_yes, cX7_yes, 1, (some .int))
abbrev mm_X7_deed : mM := (yX7_deed, cX7_deed, 3, (some .int))
abbrev mm_X7_bound : mM := (yX7_bound, cX7_bound, 3, (some .int))
abbrev mm_X7_far : mM := (yX7_far, cX7_far, 3, (some .int))
abbrev mm_X7_heats : mM := (yX7_heats, cX7_heats, 5, (some .int))
abbrev mm_X7_feed : mM := (yX7_feed, cX7_feed, 2, (some .int))
abbrev mm_X7_text : mM := (yX7_text, cX7_text, 2, (some .int))
abbrev mm_X7_isText : mM := (yX7_isText, cX7_isText, 2, (some .boolean))
abbrev mm_X7_next : mM := (yX7_next, cX7_next, 1, none)
abbrev mm_X7_sortAt : mM := (yX7_sortAt, cX7_sortAt, 2, (some .int))
abbrev mm_X7_word : mM := (yX7_word, cX7_word, 5, (some .int))
abbrev mm_X7_isE : mM := (yX7_isE, cX7_isE, 3, (some .boolean))
abbrev mm_X7_begin : mM := (yX7_begin, cX7_begin, 3, (some .int))
abbrev mm_X7_write : mM := (yX7_write, cX7_write, 2, none)
abbrev mm_X7_numberThere : mM := (yX7_numberThere, cX7_numberThere, 3, (some .int))
abbrev mm_X7_isSign : mM := (yX7_isSign, cX7_isSign, 2, (some .boolean))
abbrev mm_X7_last : mM := (yX7_last, cX7_last, 1, (some .int))
abbrev mm_X7_rank : mM := (yX7_rank, cX7_rank, 1, (some .int))
abbrev mm_X7_await : mM := (yX7_await, cX7_await, 2, none)
abbrev mm_X7_settle : mM := (yX7_settle, cX7_settle, 2, none)
abbrev mm_X7_between : mM := (yX7_between, cX7_between, 2, (some .int))
abbrev mm_X7_force : mM := (yX7_force, cX7_force, 3, (some .int))
abbrev mm_X7_say : mM := (yX7_say, cX7_say, 3, (some .int))
abbrev mm_X7_behindWord : mM := (yX7_behindWord, cX7_behindWord, 3, (some .int))
abbrev mm_X7_quiet : mM := (yX7_quiet, cX7_quiet, 4, (some .int))
abbrev mm_X7_behindMinute : mM := (yX7_behindMinute, cX7_behindMinute, 2, (some .int))
abbrev mm_X7_view : mM := (yX7_view, cX7_view, 7, (some .int))
abbrev mm_X7_sight : mM := (yX7_sight, cX7_sight, 1, (some .int))
abbrev mm_X7_furthest : mM := (yX7_furthest, cX7_furthest, 5, (some .int))
abbrev mm_X7_sees : mM := (yX7_sees, cX7_sees, 2, (some .int))
abbrev mm_X7_whomBy : mM := (yX7_whomBy, cX7_whomBy, 7, (some .int))
abbrev mm_X7_fill : mM := (yX7_fill, cX7_fill, 4, none)
abbrev mm_X7_fillWants : mM := (yX7_fillWants, cX7_fillWants, 6, none)
abbrev mm_X7_clear : mM := (yX7_clear, cX7_clear, 6, (some .long))
abbrev mm_X7_bits : mM := (yX7_bits, cX7_bits, 1, (some .long))
abbrev mm_X7_farthestEver : mM := (yX7_farthestEver, cX7_farthestEver, 4, (some .int))
abbrev mm_X7_reach : mM := (yX7_reach, cX7_reach, 6, none)
abbrev mm_X7_fewest : mM := (yX7_fewest, cX7_fewest, 7, (some .int))
abbrev mm_X7_words : mM := (yX7_words, cX7_words, 8, (some .int))
abbrev mm_X7_stays : mM := (yX7_stays, cX7_stays, 5, (some .int))
abbrev mm_X7_rows : mM := (yX7_rows, cX7_rows, 11, (some .long))
abbrev mm_X7_gcd : mM := (yX7_gcd, cX7_gcd, 10, (some .long))
abbrev mm_X7_whom : mM := (yX7_whom, cX7_whom, 3, (some .int))
abbrev mm_X7_sheet : mM := (yX7_sheet, cX7_sheet, 5, (some .int))
abbrev mm_X7_isSheet : mM := (yX7_isSheet, cX7_isSheet, 1, (some .boolean))
abbrev mm_X7_cell : mM := (yX7_cell, cX7_cell, 4, (some .int))
abbrev mm_X7_copy : mM := (yX7_copy, cX7_copy, 7, (some .int))
abbrev mm_X7_pairs : mM := (yX7_pairs, cX7_pairs, 9, (some .int))
abbrev mm_X7_taken : mM := (yX7_taken, cX7_taken, 4, (some .int))
abbrev mm_X7_tells : mM := (yX7_tells, cX7_tells, 9, (some .int))
abbrev mm_X7_otherwise : mM := (yX7_otherwise, cX7_otherwise, 5, (some .int))
abbrev mm_X7_fitAngers : mM := (yX7_fitAngers, cX7_fitAngers, 7, (some .int))
abbrev mm_X7_fits : mM := (yX7_fits, cX7_fits, 3, (some .boolean))
abbrev mm_X7_film : mM := (yX7_film, cX7_film, 6, (some .int))
abbrev mm_X7_drawn : mM := (yX7_drawn, cX7_drawn, 4, (some .int))
abbrev mm_X7_farBehind : mM := (yX7_farBehind, cX7_farBehind, 7, (some .int))
abbrev mm_X7_chance : mM := (yX7_chance, cX7_chance, 10, (some .long))
abbrev mm_X7_image : mM := (yX7_image, cX7_image, 2, (some .int))
abbrev mm_X7_back : mM := (yX7_back, cX7_back, 2, (some .int))
abbrev mm_X7_count : mM := (yX7_count, cX7_count, 4, (some .int))
set_option maxRecDepth 20000 in
theorem ok_J0_length_8abf5 : mOk mm_J0_length_8abf5 0 := ⟨mTb_of 280 rfl rfl, mTb_of 84 (by decide +kernel) rfl, by decide +kernel, by decide⟩
set_option maxRecDepth 20000 in
theorem ok_J0_coder_7d493 : mOk mm_J0_coder_7d493 0 := ⟨mTb_of 284 rfl rfl, mTb_of 84 (by decide +kernel) rfl, by decide +kernel, by decide⟩
set_option maxRecDepth 20000 in
theorem ok_J0_charAt_5068e : mOk mm_J0_charAt_5068e 1 := ⟨mTb_of 290 rfl rfl, mTb_of 84 (by decide +kernel) rfl, by decide +kernel, by decide⟩
set_option maxRecDepth 20000 in
theorem ok_J0_isLatin1_aae02 : mOk mm_J0_isLatin1_aae02 0 := ⟨mTb_of 294 rfl rfl, mTb_of 84 (by decide +kernel) rfl, by decide +kernel, by decide⟩
set_option maxRecDepth 20000 in
theorem ok_J1_charAt_3b067 : mOk mm_J1_charAt_3b067 2 := ⟨mTb_of 297 rfl rfl, mTb_of 85 (by decide +kernel) rfl, by decide +kernel, by decide⟩
set_option maxRecDepth 20000 in
theorem ok_J0_checkIndex_df160 : mOk mm_J0_checkIndex_df160 2 := ⟨mTb_of 300 rfl rfl, mTb_of 84 (by decide +kernel) rfl, by decide +kernel, by decide⟩
set_option maxRecDepth 20000 in
theorem ok_J3_checkIndex_8e157 : mOk mm_J3_checkIndex_8e157 3 := ⟨mTb_of 305 rfl rfl, mTb_of 86 (by decide +kernel) rfl, by decide +kernel, by decide⟩
set_option maxRecDepth 20000 in
theorem ok_J2_charAt_3b067 : mOk mm_J2_charAt_3b067 2 := ⟨mTb_of 308 rfl rfl, mTb_of 87 (by decide +kernel) rfl, by decide +kernel, by decide⟩
set_option maxRecDepth 20000 in
theorem ok_J2_checkIndex_2214a : mOk mm_J2_checkIndex_2214a 2 := ⟨mTb_of 311 rfl rfl, mTb_of 87 (by decide +kernel) rfl, by decide +kernel, by decide⟩
set_option maxRecDepth 20000 in
theorem ok_J2_length_9d52b : mOk mm_J2_length_9d52b 1 := ⟨mTb_of 314 rfl rfl, mTb_of 87 (by decide +kernel) rfl, by decide +kernel, by decide⟩
set_option maxRecDepth 20000 in
theorem ok_J2_getChar_3b067 : mOk mm_J2_getChar_3b067 2 := ⟨mTb_of 318 rfl rfl, mTb_of 87 (by decide +kernel) rfl, by decide +kernel, by decide⟩
set_option maxRecDepth 20000 in
theorem ok_X1_put : mOk mm_X1_put 1 := ⟨mTb_of 328 rfl rfl, mTb_of 80 (by decide +kernel) rfl, by decide +kernel, by decide⟩
set_option maxRecDepth 20000 in
theorem ok_X6_within : mOk mm_X6_within 2 := ⟨mTb_of 331 rfl rfl, mTb_of 77 (by decide +kernel) rfl, by decide +kernel, by decide⟩
set_option maxRecDepth 20000 in
theorem ok_X1_read : mOk mm_X1_read 0 := ⟨mTb_of 335 rfl rfl, mTb_of 80 (by decide +kernel) rfl, by decide +kernel, by decide⟩
set_option maxRecDepth 20000 in
theorem ok_X5_begin : mOk mm_X5_begin 0 := ⟨mTb_of 339 rfl rfl, mTb_of 79 (by decide +kernel) rfl, by decide +kernel, by decide⟩
set_option maxRecDepth 20000 in
theorem ok_X1_advance : mOk mm_X1_advance 0 := ⟨mTb_of 343 rfl rfl, mTb_of 80 (by decide +kernel) rfl, by decide +kernel, by decide⟩
set_option maxRecDepth 20000 in
theorem ok_X1_isBlank : mOk mm_X1_isBlank 1 := ⟨mTb_of 346 rfl rfl, mTb_of 80 (by decide +kernel) rfl, by decide +kernel, by decide⟩
set_option maxRecDepth 20000 in
theorem ok_X1_isLetter : mOk mm_X1_isLetter 1 := ⟨mTb_of 349 rfl rfl, mTb_of 80 (by decide +kernel) rfl, by decide +kernel, by decide⟩
set_option maxRecDepth 20000 in
theorem ok_X1_readSpelled : mOk mm_X1_readSpelled 0 := ⟨mTb_of 353 rfl rfl, mTb_of 80 (by decide +kernel) rfl, by decide +kernel, by decide⟩
set_option maxRecDepth 20000 in
theorem ok_X1_isDigit : mOk mm_X1_isDigit 1 := ⟨mTb_of 358 rfl rfl, mTb_of 80 (by decide +kernel) rfl, by decide +kernel, by decide⟩
set_option maxRecDepth 20000 in
theorem ok_X1_readNumber : mOk mm_X1_readNumber 0 := ⟨mTb_of 362 rfl rfl, mTb_of 80 (by decide +kernel) rfl, by decide +kernel, by decide⟩
set_option maxRecDepth 20000 in
theorem ok_J0_indexOf_0f7a4 : mOk mm_J0_indexOf_0f7a4 1 := ⟨mTb_of 367 rfl rfl, mTb_of 84 (by decide +kernel) rfl, by decide +kernel, by decide⟩
set_option maxRecDepth 20000 in
theorem ok_J0_indexOf_7cf53 : mOk mm_J0_indexOf_7cf53 2 := ⟨mTb_of 371 rfl rfl, mTb_of 84 (by decide +kernel) rfl, by decide +kernel, by decide⟩
set_option maxRecDepth 20000 in
theorem ok_J1_indexOf_4cfef : mOk mm_J1_indexOf_4cfef 4 := ⟨mTb_of 375 rfl rfl, mTb_of 85 (by decide +kernel) rfl, by decide +kernel, by decide⟩
set_option maxRecDepth 20000 in
theorem ok_J1_canEncode_9a6ad : mOk mm_J1_canEncode_9a6ad 1 := ⟨mTb_of 378 rfl rfl, mTb_of 85 (by decide +kernel) rfl, by decide +kernel, by decide⟩
set_option maxRecDepth 20000 in
theorem ok_J9_max_7cf53 : mOk mm_J9_max_7cf53 2 := ⟨mTb_of 381 rfl rfl, mTb_of 88 (by decide +kernel) rfl, by decide +kernel, by decide⟩
set_option maxRecDepth 20000 in
theorem ok_J9_min_7cf53 : mOk mm_J9_min_7cf53 2 := ⟨mTb_of 384 rfl rfl, mTb_of 88 (by decide +kernel) rfl, by decide +kernel, by decide⟩
set_option maxRecDepth 20000 in
theorem ok_J1_indexOfChar_4cfef : mOk mm_J1_indexOfChar_4cfef 4 := ⟨mTb_of 387 rfl rfl, mTb_of 85 (by decide +kernel) rfl, by decide +kernel, by decide⟩
set_option maxRecDepth 20000 in
theorem ok_J2_indexOf_4cfef : mOk mm_J2_indexOf_4cfef 4 := ⟨mTb_of 390 rfl rfl, mTb_of 87 (by decide +kernel) rfl, by decide +kernel, by decide⟩
set_option maxRecDepth 20000 in
theorem ok_J2_indexOfChar_4cfef : mOk mm_J2_indexOfChar_4cfef 4 := ⟨mTb_of 396 rfl rfl, mTb_of 87 (by decide +kernel) rfl, by decide +kernel, by decide⟩
set_option maxRecDepth 20000 in
theorem ok_J2_checkBoundsBeginEnd_d044e : mOk mm_J2_checkBoundsBeginEnd_d044e 3 := ⟨mTb_of 399 rfl rfl, mTb_of 87 (by decide +kernel) rfl, by decide +kernel, by decide⟩
set_option maxRecDepth 20000 in
theorem ok_J0_checkBoundsBeginEnd_23922 : mOk mm_J0_checkBoundsBeginEnd_23922 3 := ⟨mTb_of 402 rfl rfl, mTb_of 84 (by decide +kernel) rfl, by decide +kernel, by decide⟩
set_option maxRecDepth 20000 in
theorem ok_J3_checkFromToIndex_8c36e : mOk mm_J3_checkFromToIndex_8c36e 4 := ⟨mTb_of 405 rfl rfl, mTb_of 86 (by decide +kernel) rfl, by decide +kernel, by decide⟩
set_option maxRecDepth 20000 in
theorem ok_J2_indexOfCharUnsafe_4cfef : mOk mm_J2_indexOfCharUnsafe_4cfef 4 := ⟨mTb_of 408 rfl rfl, mTb_of 87 (by decide +kernel) rfl, by decide +kernel, by decide⟩
set_option maxRecDepth 20000 in
theorem ok_J2_indexOfSupplementary_4cfef : mOk mm_J2_indexOfSupplementary_4cfef 4 := ⟨mTb_of 411 rfl rfl, mTb_of 87 (by decide +kernel) rfl, by decide +kernel, by decide⟩
set_option maxRecDepth 20000 in
theorem ok_J11_isValidCodePoint_9a6ad : mOk mm_J11_isValidCodePoint_9a6ad 1 := ⟨mTb_of 414 rfl rfl, mTb_of 89 (by decide +kernel) rfl, by decide +kernel, by decide⟩
set_option maxRecDepth 20000 in
theorem ok_J11_highSurrogate_5068e : mOk mm_J11_highSurrogate_5068e 1 := ⟨mTb_of 417 rfl rfl, mTb_of 89 (by decide +kernel) rfl, by decide +kernel, by decide⟩
set_option maxRecDepth 20000 in
theorem ok_J11_lowSurrogate_5068e : mOk mm_J11_lowSurrogate_5068e 1 := ⟨mTb_of 421 rfl rfl, mTb_of 89 (by decide +kernel) rfl, by decide +kernel, by decide⟩
set_option maxRecDepth 20000 in
theorem ok_X1_need : mOk mm_X1_need 1 := ⟨mTb_of 426 rfl rfl, mTb_of 80 (by decide +kernel) rfl, by decide +kernel, by decide⟩
set_option maxRecDepth 20000 in
theorem ok_X1_refuse : mOk mm_X1_refuse 0 := ⟨mTb_of 430 rfl rfl, mTb_of 80 (by decide +kernel) rfl, by decide +kernel, by decide⟩
set_option maxRecDepth 20000 in
theorem ok_X1_chain : mOk mm_X1_chain 2 := ⟨mTb_of 434 rfl rfl, mTb_of 80 (by decide +kernel) rfl, by decide +kernel, by decide⟩
set_option maxRecDepth 20000 in
theorem ok_X1_link : mOk mm_X1_link 2 := ⟨mTb_of 438 rfl rfl, mTb_of 80 (by decide +kernel) rfl, by decide +kernel, by decide⟩
set_option maxRecDepth 20000 in
theorem ok_X1_one : mOk mm_X1_one 1 := ⟨mTb_of 442 rfl rfl, mTb_of 80 (by decide +kernel) rfl, by decide +kernel, by decide⟩
set_option maxRecDepth 20000 in
theorem ok_X5_add : mOk mm_X5_add 1 := ⟨mTb_of 446 rfl rfl, mTb_of 79 (by decide +kernel) rfl, by decide +kernel, by decide⟩
set_option maxRecDepth 20000 in
theorem ok_X1_denial : mOk mm_X1_denial 1 := ⟨mTb_of 451 rfl rfl, mTb_of 80 (by decide +kernel) rfl, by decide +kernel, by decide⟩
set_option maxRecDepth 20000 in
theorem ok_X1_stepOf : mOk mm_X1_stepOf 1 := ⟨mTb_of 454 rfl rfl, mTb_of 80 (by decide +kernel) rfl, by decide +kernel, by decide⟩
set_option maxRecDepth 20000 in
theorem ok_X1_joins : mOk mm_X1_joins 1 := ⟨mTb_of 458 rfl rfl, mTb_of 80 (by decide +kernel) rfl, by decide +kernel, by decide⟩
set_option maxRecDepth 20000 in
theorem ok_X5_endPart : mOk mm_X5_endPart 1 := ⟨mTb_of 462 rfl rfl, mTb_of 79 (by decide +kernel) rfl, by decide +kernel, by decide⟩
set_option maxRecDepth 20000 in
theorem ok_X5_keep : mOk mm_X5_keep 0 := ⟨mTb_of 466 rfl rfl, mTb_of 79 (by decide +kernel) rfl, by decide +kernel, by decide⟩
set_option maxRecDepth 20000 in
theorem ok_X6_set : mOk mm_X6_set 3 := ⟨mTb_of 497 rfl rfl, mTb_of 77 (by decide +kernel) rfl, by decide +kernel, by decide⟩
set_option maxRecDepth 20000 in
theorem ok_X6_turnHour : mOk mm_X6_turnHour 1 := ⟨mTb_of 501 rfl rfl, mTb_of 77 (by decide +kernel) rfl, by decide +kernel, by decide⟩
set_option maxRecDepth 20000 in
theorem ok_X6_change : mOk mm_X6_change 5 := ⟨mTb_of 505 rfl rfl, mTb_of 77 (by decide +kernel) rfl, by decide +kernel, by decide⟩
set_option maxRecDepth 20000 in
theorem ok_X6_pair : mOk mm_X6_pair 3 := ⟨mTb_of 509 rfl rfl, mTb_of 77 (by decide +kernel) rfl, by decide +kernel, by decide⟩
set_option maxRecDepth 20000 in
theorem ok_X2_seat : mOk mm_X2_seat 3 := ⟨mTb_of 513 rfl rfl, mTb_of 78 (by decide +kernel) rfl, by decide +kernel, by decide⟩
set_option maxRecDepth 20000 in
theorem ok_X6_told : mOk mm_X6_told 2 := ⟨mTb_of 517 rfl rfl, mTb_of 77 (by decide +kernel) rfl, by decide +kernel, by decide⟩
set_option maxRecDepth 20000 in
theorem ok_X6_item : mOk mm_X6_item 3 := ⟨mTb_of 520 rfl rfl, mTb_of 77 (by decide +kernel) rfl, by decide +kernel, by decide⟩
set_option maxRecDepth 20000 in
theorem ok_X6_felt : mOk mm_X6_felt 2 := ⟨mTb_of 524 rfl rfl, mTb_of 77 (by decide +kernel) rfl, by decide +kernel, by decide⟩
set_option maxRecDepth 20000 in
theorem ok_X2_has : mOk mm_X2_has 1 := ⟨mTb_of 528 rfl rfl, mTb_of 78 (by decide +kernel) rfl, by decide +kernel, by decide⟩
set_option maxRecDepth 20000 in
theorem ok_X4_of : mOk mm_X4_of 2 := ⟨mTb_of 533 rfl rfl, mTb_of 81 (by decide +kernel) rfl, by decide +kernel, by decide⟩
set_option maxRecDepth 20000 in
theorem ok_X2_milesWithThing : mOk mm_X2_milesWithThing 0 := ⟨mTb_of 538 rfl rfl, mTb_of 78 (by decide +kernel) rfl, by decide +kernel, by decide⟩
set_option maxRecDepth 20000 in
theorem ok_J13_bitCount_95d88 : mOk mm_J13_bitCount_95d88 1 := ⟨mTb_of 541 rfl rfl, mTb_of 91 (by decide +kernel) rfl, by decide +kernel, by decide⟩
set_option maxRecDepth 20000 in
theorem ok_X2_angerOf : mOk mm_X2_angerOf 1 := ⟨mTb_of 548 rfl rfl, mTb_of 78 (by decide +kernel) rfl, by decide +kernel, by decide⟩
set_option maxRecDepth 20000 in
theorem ok_X4_cools : mOk mm_X4_cools 1 := ⟨mTb_of 553 rfl rfl, mTb_of 81 (by decide +kernel) rfl, by decide +kernel, by decide⟩
set_option maxRecDepth 20000 in
theorem ok_X5_worth : mOk mm_X5_worth 3 := ⟨mTb_of 557 rfl rfl, mTb_of 79 (by decide +kernel) rfl, by decide +kernel, by decide⟩
set_option maxRecDepth 20000 in
theorem ok_X5_joined : mOk mm_X5_joined 3 := ⟨mTb_of 560 rfl rfl, mTb_of 79 (by decide +kernel) rfl, by decide +kernel, by decide⟩
set_option maxRecDepth 20000 in
theorem ok_X6_bounded : mOk mm_X6_bounded 3 := ⟨mTb_of 563 rfl rfl, mTb_of 77 (by decide +kernel) rfl, by decide +kernel, by decide⟩
set_option maxRecDepth 20000 in
theorem ok_X4_coolsOfKind : mOk mm_X4_coolsOfKind 2 := ⟨mTb_of 569 rfl rfl, mTb_of 81 (by decide +kernel) rfl, by decide +kernel, by decide⟩
set_option maxRecDepth 20000 in
theorem ok_X4_far : mOk mm_X4_far 1 := ⟨mTb_of 573 rfl rfl, mTb_of 81 (by decide +kernel) rfl, by decide +kernel, by decide⟩
set_option maxRecDepth 20000 in
theorem ok_X4_farOfKind : mOk mm_X4_farOfKind 2 := ⟨mTb_of 577 rfl rfl, mTb_of 81 (by decide +kernel) rfl, by decide +kernel, by decide⟩
set_option maxRecDepth 20000 in
theorem ok_X4_heats : mOk mm_X4_heats 2 := ⟨mTb_of 581 rfl rfl, mTb_of 81 (by decide +kernel) rfl, by decide +kernel, by decide⟩
set_option maxRecDepth 20000 in
theorem ok_X4_heatsOfKind : mOk mm_X4_heatsOfKind 3 := ⟨mTb_of 585 rfl rfl, mTb_of 81 (by decide +kernel) rfl, by decide +kernel, by decide⟩
set_option maxRecDepth 20000 in
theorem ok_X4_heatsOfWed : mOk mm_X4_heatsOfWed 2 := ⟨mTb_of 589 rfl rfl, mTb_of 81 (by decide +kernel) rfl, by decide +kernel, by decide⟩
set_option maxRecDepth 20000 in
theorem ok_X6_feed : mOk mm_X6_feed 1 := ⟨mTb_of 594 rfl rfl, mTb_of 77 (by decide +kernel) rfl, by decide +kernel, by decide⟩
set_option maxRecDepth 20000 in
theorem ok_X6_text : mOk mm_X6_text 0 := ⟨mTb_of 598 rfl rfl, mTb_of 77 (by decide +kernel) rfl, by decide +kernel, by decide⟩
set_option maxRecDepth 20000 in
theorem ok_X6_force : mOk mm_X6_force 1 := ⟨mTb_of 602 rfl rfl, mTb_of 77 (by decide +kernel) rfl, by decide +kernel, by decide⟩
set_option maxRecDepth 20000 in
theorem ok_X6_say : mOk mm_X6_say 2 := ⟨mTb_of 606 rfl rfl, mTb_of 77 (by decide +kernel) rfl, by decide +kernel, by decide⟩
set_option maxRecDepth 20000 in
theorem ok_X4_heated : mOk mm_X4_heated 2 := ⟨mTb_of 610 rfl rfl, mTb_of 81 (by decide +kernel) rfl, by decide +kernel, by decide⟩
set_option maxRecDepth 20000 in
theorem ok_X2_hear : mOk mm_X2_hear 2 := ⟨mTb_of 615 rfl rfl, mTb_of 78 (by decide +kernel) rfl, by decide +kernel, by decide⟩
set_option maxRecDepth 20000 in
theorem ok_X6_quiet : mOk mm_X6_quiet 1 := ⟨mTb_of 620 rfl rfl, mTb_of 77 (by decide +kernel) rfl, by decide +kernel, by decide⟩
set_option maxRecDepth 20000 in
theorem ok_X6_cooledFor : mOk mm_X6_cooledFor 2 := ⟨mTb_of 624 rfl rfl, mTb_of 77 (by decide +kernel) rfl, by decide +kernel, by decide⟩
set_option maxRecDepth 20000 in
theorem ok_X4_cooled : mOk mm_X4_cooled 1 := ⟨mTb_of 628 rfl rfl, mTb_of 81 (by decide +kernel) rfl, by decide +kernel, by decide⟩
set_option maxRecDepth 20000 in
theorem ok_X6_view : mOk mm_X6_view 1 := ⟨mTb_of 633 rfl rfl, mTb_of 77 (by decide +kernel) rfl, by decide +kernel, by decide⟩
set_option maxRecDepth 20000 in
theorem ok_X6_furthest : mOk mm_X6_furthest 0 := ⟨mTb_of 637 rfl rfl, mTb_of 77 (by decide +kernel) rfl, by decide +kernel, by decide⟩
set_option maxRecDepth 20000 in
theorem ok_X6_furthestPair : mOk mm_X6_furthestPair 0 := ⟨mTb_of 641 rfl rfl, mTb_of 77 (by decide +kernel) rfl, by decide +kernel, by decide⟩
set_option maxRecDepth 20000 in
theorem ok_X6_farNow : mOk mm_X6_farNow 1 := ⟨mTb_of 645 rfl rfl, mTb_of 77 (by decide +kernel) rfl, by decide +kernel, by decide⟩
set_option maxRecDepth 20000 in
theorem ok_X6_milesBelow : mOk mm_X6_milesBelow 1 := ⟨mTb_of 648 rfl rfl, mTb_of 77 (by decide +kernel) rfl, by decide +kernel, by decide⟩
set_option maxRecDepth 20000 in
theorem ok_X2_furthestThing : mOk mm_X2_furthestThing 1 := ⟨mTb_of 655 rfl rfl, mTb_of 78 (by decide +kernel) rfl, by decide +kernel, by decide⟩
set_option maxRecDepth 20000 in
theorem ok_X2_furthestMileWithThing : mOk mm_X2_furthestMileWithThing 1 := ⟨mTb_of 659 rfl rfl, mTb_of 78 (by decide +kernel) rfl, by decide +kernel, by decide⟩
set_option maxRecDepth 20000 in
theorem ok_X6_nearest : mOk mm_X6_nearest 2 := ⟨mTb_of 664 rfl rfl, mTb_of 77 (by decide +kernel) rfl, by decide +kernel, by decide⟩
set_option maxRecDepth 20000 in
theorem ok_X0_spread : mOk mm_X0_spread 3 := ⟨mTb_of 668 rfl rfl, mTb_of 82 (by decide +kernel) rfl, by decide +kernel, by decide⟩
set_option maxRecDepth 20000 in
theorem ok_J7_fill_53178 : mOk mm_J7_fill_53178 2 := ⟨mTb_of 672 rfl rfl, mTb_of 92 (by decide +kernel) rfl, by decide +kernel, by decide⟩
set_option maxRecDepth 20000 in
theorem ok_X0_meet : mOk mm_X0_meet 3 := ⟨mTb_of 677 rfl rfl, mTb_of 82 (by decide +kernel) rfl, by decide +kernel, by decide⟩
set_option maxRecDepth 20000 in
theorem ok_X0_first : mOk mm_X0_first 2 := ⟨mTb_of 683 rfl rfl, mTb_of 82 (by decide +kernel) rfl, by decide +kernel, by decide⟩
set_option maxRecDepth 20000 in
theorem ok_X0_wordsTo : mOk mm_X0_wordsTo 1 := ⟨mTb_of 688 rfl rfl, mTb_of 82 (by decide +kernel) rfl, by decide +kernel, by decide⟩
set_option maxRecDepth 20000 in
theorem ok_X6_clear : mOk mm_X6_clear 1 := ⟨mTb_of 692 rfl rfl, mTb_of 77 (by decide +kernel) rfl, by decide +kernel, by decide⟩
set_option maxRecDepth 20000 in
theorem ok_X6_furthestReached : mOk mm_X6_furthestReached 0 := ⟨mTb_of 696 rfl rfl, mTb_of 77 (by decide +kernel) rfl, by decide +kernel, by decide⟩
set_option maxRecDepth 20000 in
theorem ok_X0_furthest : mOk mm_X0_furthest 1 := ⟨mTb_of 700 rfl rfl, mTb_of 82 (by decide +kernel) rfl, by decide +kernel, by decide⟩
set_option maxRecDepth 20000 in
theorem ok_X6_fewest : mOk mm_X6_fewest 3 := ⟨mTb_of 707 rfl rfl, mTb_of 77 (by decide +kernel) rfl, by decide +kernel, by decide⟩
set_option maxRecDepth 20000 in
theorem ok_X0_rowTo : mOk mm_X0_rowTo 1 := ⟨mTb_of 711 rfl rfl, mTb_of 82 (by decide +kernel) rfl, by decide +kernel, by decide⟩
set_option maxRecDepth 20000 in
theorem ok_X6_words : mOk mm_X6_words 2 := ⟨mTb_of 716 rfl rfl, mTb_of 77 (by decide +kernel) rfl, by decide +kernel, by decide⟩
set_option maxRecDepth 20000 in
theorem ok_X0_least : mOk mm_X0_least 0 := ⟨mTb_of 720 rfl rfl, mTb_of 82 (by decide +kernel) rfl, by decide +kernel, by decide⟩
set_option maxRecDepth 20000 in
theorem ok_X0_most : mOk mm_X0_most 0 := ⟨mTb_of 725 rfl rfl, mTb_of 82 (by decide +kernel) rfl, by decide +kernel, by decide⟩
set_option maxRecDepth 20000 in
theorem ok_X6_bestWord : mOk mm_X6_bestWord 1 := ⟨mTb_of 729 rfl rfl, mTb_of 77 (by decide +kernel) rfl, by decide +kernel, by decide⟩
set_option maxRecDepth 20000 in
theorem ok_X6_farBehind : mOk mm_X6_farBehind 2 := ⟨mTb_of 733 rfl rfl, mTb_of 77 (by decide +kernel) rfl, by decide +kernel, by decide⟩
set_option maxRecDepth 20000 in
theorem ok_X6_stays : mOk mm_X6_stays 2 := ⟨mTb_of 737 rfl rfl, mTb_of 77 (by decide +kernel) rfl, by decide +kernel, by decide⟩
set_option maxRecDepth 20000 in
theorem ok_X6_rows : mOk mm_X6_rows 4 := ⟨mTb_of 741 rfl rfl, mTb_of 77 (by decide +kernel) rfl, by decide +kernel, by decide⟩
set_option maxRecDepth 20000 in
theorem ok_X0_rowsTo : mOk mm_X0_rowsTo 3 := ⟨mTb_of 746 rfl rfl, mTb_of 82 (by decide +kernel) rfl, by decide +kernel, by decide⟩
set_option maxRecDepth 20000 in
theorem ok_J7_fill_d0a16 : mOk mm_J7_fill_d0a16 2 := ⟨mTb_of 749 rfl rfl, mTb_of 92 (by decide +kernel) rfl, by decide +kernel, by decide⟩
set_option maxRecDepth 20000 in
theorem ok_X0_sayOneMore : mOk mm_X0_sayOneMore 0 := ⟨mTb_of 753 rfl rfl, mTb_of 82 (by decide +kernel) rfl, by decide +kernel, by decide⟩
set_option maxRecDepth 20000 in
theorem ok_X6_lowest : mOk mm_X6_lowest 3 := ⟨mTb_of 759 rfl rfl, mTb_of 77 (by decide +kernel) rfl, by decide +kernel, by decide⟩
set_option maxRecDepth 20000 in
theorem ok_X6_commonDivisor : mOk mm_X6_commonDivisor 2 := ⟨mTb_of 762 rfl rfl, mTb_of 77 (by decide +kernel) rfl, by decide +kernel, by decide⟩
set_option maxRecDepth 20000 in
theorem ok_X6_whom : mOk mm_X6_whom 2 := ⟨mTb_of 766 rfl rfl, mTb_of 77 (by decide +kernel) rfl, by decide +kernel, by decide⟩
set_option maxRecDepth 20000 in
theorem ok_X6_tells : mOk mm_X6_tells 3 := ⟨mTb_of 770 rfl rfl, mTb_of 77 (by decide +kernel) rfl, by decide +kernel, by decide⟩
set_option maxRecDepth 20000 in
theorem ok_X3_missing : mOk mm_X3_missing 0 := ⟨mTb_of 774 rfl rfl, mTb_of 83 (by decide +kernel) rfl, by decide +kernel, by decide⟩
set_option maxRecDepth 20000 in
theorem ok_X6_firstOtherwise : mOk mm_X6_firstOtherwise 2 := ⟨mTb_of 778 rfl rfl, mTb_of 77 (by decide +kernel) rfl, by decide +kernel, by decide⟩
set_option maxRecDepth 20000 in
theorem ok_X3_at : mOk mm_X3_at 1 := ⟨mTb_of 782 rfl rfl, mTb_of 83 (by decide +kernel) rfl, by decide +kernel, by decide⟩
set_option maxRecDepth 20000 in
theorem ok_X6_fittingKinds : mOk mm_X6_fittingKinds 2 := ⟨mTb_of 787 rfl rfl, mTb_of 77 (by decide +kernel) rfl, by decide +kernel, by decide⟩
set_option maxRecDepth 20000 in
theorem ok_X6_fittingNumbers : mOk mm_X6_fittingNumbers 2 := ⟨mTb_of 791 rfl rfl, mTb_of 77 (by decide +kernel) rfl, by decide +kernel, by decide⟩
set_option maxRecDepth 20000 in
theorem ok_X4_renumber : mOk mm_X4_renumber 1 := ⟨mTb_of 795 rfl rfl, mTb_of 81 (by decide +kernel) rfl, by decide +kernel, by decide⟩
set_option maxRecDepth 20000 in
theorem ok_X6_fittingAngers : mOk mm_X6_fittingAngers 1 := ⟨mTb_of 799 rfl rfl, mTb_of 77 (by decide +kernel) rfl, by decide +kernel, by decide⟩
set_option maxRecDepth 20000 in
theorem ok_X6_leastFittingAnger : mOk mm_X6_leastFittingAnger 1 := ⟨mTb_of 803 rfl rfl, mTb_of 77 (by decide +kernel) rfl, by decide +kernel, by decide⟩
set_option maxRecDepth 20000 in
theorem ok_X6_fittingTexts : mOk mm_X6_fittingTexts 2 := ⟨mTb_of 807 rfl rfl, mTb_of 77 (by decide +kernel) rfl, by decide +kernel, by decide⟩
set_option maxRecDepth 20000 in
theorem ok_X6_fittingWords : mOk mm_X6_fittingWords 2 := ⟨mTb_of 811 rfl rfl, mTb_of 77 (by decide +kernel) rfl, by decide +kernel, by decide⟩
set_option maxRecDepth 20000 in
theorem ok_X6_fittingPairs : mOk mm_X6_fittingPairs 1 := ⟨mTb_of 815 rfl rfl, mTb_of 77 (by decide +kernel) rfl, by decide +kernel, by decide⟩
set_option maxRecDepth 20000 in
theorem ok_X6_film : mOk mm_X6_film 3 := ⟨mTb_of 819 rfl rfl, mTb_of 77 (by decide +kernel) rfl, by decide +kernel, by decide⟩
set_option maxRecDepth 20000 in
theorem ok_X3_become : mOk mm_X3_become 2 := ⟨mTb_of 823 rfl rfl, mTb_of 83 (by decide +kernel) rfl, by decide +kernel, by decide⟩
set_option maxRecDepth 20000 in
theorem ok_X3_put : mOk mm_X3_put 2 := ⟨mTb_of 829 rfl rfl, mTb_of 83 (by decide +kernel) rfl, by decide +kernel, by decide⟩
set_option maxRecDepth 20000 in
theorem ok_X3_cut : mOk mm_X3_cut 1 := ⟨mTb_of 833 rfl rfl, mTb_of 83 (by decide +kernel) rfl, by decide +kernel, by decide⟩
set_option maxRecDepth 20000 in
theorem ok_X6_drawn : mOk mm_X6_drawn 3 := ⟨mTb_of 837 rfl rfl, mTb_of 77 (by decide +kernel) rfl, by decide +kernel, by decide⟩
set_option maxRecDepth 20000 in
theorem ok_X6_farDrawn : mOk mm_X6_farDrawn 3 := ⟨mTb_of 841 rfl rfl, mTb_of 77 (by decide +kernel) rfl, by decide +kernel, by decide⟩
set_option maxRecDepth 20000 in
theorem ok_X6_chance : mOk mm_X6_chance 5 := ⟨mTb_of 846 rfl rfl, mTb_of 77 (by decide +kernel) rfl, by decide +kernel, by decide⟩
set_option maxRecDepth 20000 in
theorem ok_X6_image : mOk mm_X6_image 0 := ⟨mTb_of 850 rfl rfl, mTb_of 77 (by decide +kernel) rfl, by decide +kernel, by decide⟩
set_option maxRecDepth 20000 in
theorem ok_X2_become : mOk mm_X2_become 1 := ⟨mTb_of 854 rfl rfl, mTb_of 78 (by decide +kernel) rfl, by decide +kernel, by decide⟩
set_option maxRecDepth 20000 in
theorem ok_X6_back : mOk mm_X6_back 0 := ⟨mTb_of 859 rfl rfl, mTb_of 77 (by decide +kernel) rfl, by decide +kernel, by decide⟩
set_option maxRecDepth 20000 in
theorem ok_X6_count : mOk mm_X6_count 1 := ⟨mTb_of 863 rfl rfl, mTb_of 77 (by decide +kernel) rfl, by decide +kernel, by decide⟩
set_option maxRecDepth 20000 in
theorem ok_X2_toldOfAll : mOk mm_X2_toldOfAll 0 := ⟨mTb_of 867 rfl rfl, mTb_of 78 (by decide +kernel) rfl, by decide +kernel, by decide⟩
set_option maxRecDepth 20000 in
theorem ok_X6_sheet : mOk mm_X6_sheet 3 := ⟨mTb_of 871 rfl rfl, mTb_of 77 (by decide +kernel) rfl, by decide +kernel, by decide⟩
set_option maxRecDepth 20000 in
theorem ok_X6_cell : mOk mm_X6_cell 3 := ⟨mTb_of 875 rfl rfl, mTb_of 77 (by decide +kernel) rfl, by decide +kernel, by decide⟩
set_option maxRecDepth 20000 in
theorem ok_X6_copy : mOk mm_X6_copy 5 := ⟨mTb_of 879 rfl rfl, mTb_of 77 (by decide +kernel) rfl, by decide +kernel, by decide⟩
set_option maxRecDepth 20000 in
theorem ok_X3_holds : mOk mm_X3_holds 2 := ⟨mTb_of 883 rfl rfl, mTb_of 83 (by decide +kernel) rfl, by decide +kernel, by decide⟩
set_option maxRecDepth 20000 in
theorem ok_X6_pairs : mOk mm_X6_pairs 4 := ⟨mTb_of 888 rfl rfl, mTb_of 77 (by decide +kernel) rfl, by decide +kernel, by decide⟩
set_option maxRecDepth 20000 in
theorem ok_X6_taken : mOk mm_X6_taken 2 := ⟨mTb_of 893 rfl rfl, mTb_of 77 (by decide +kernel) rfl, by decide +kernel, by decide⟩
set_option maxRecDepth 20000 in
theorem ok_X6_isUnder : mOk mm_X6_isUnder 2 := ⟨mTb_of 896 rfl rfl, mTb_of 77 (by decide +kernel) rfl, by decide +kernel, by decide⟩
set_option maxRecDepth 20000 in
theorem ok_X7_firstText : mOk mm_X7_firstText 0 := ⟨mTb_of 908 rfl rfl, mTb_of 90 (by decide +kernel) rfl, by decide +kernel, by decide⟩
set_option maxRecDepth 20000 in
theorem ok_X7_set : mOk mm_X7_set 3 := ⟨mTb_of 1011 rfl rfl, mTb_of 90 (by decide +kernel) rfl, by decide +kernel, by decide⟩
set_option maxRecDepth 20000 in
theorem ok_X7_isIn : mOk mm_X7_isIn 3 := ⟨mTb_of 1014 rfl rfl, mTb_of 90 (by decide +kernel) rfl, by decide +kernel, by decide⟩
set_option maxRecDepth 20000 in
theorem ok_X7_most : mOk mm_X7_most 1 := ⟨mTb_of 1017 rfl rfl, mTb_of 90 (by decide +kernel) rfl, by decide +kernel, by decide⟩
set_option maxRecDepth 20000 in
theorem ok_X7_place : mOk mm_X7_place 2 := ⟨mTb_of 1021 rfl rfl, mTb_of 90 (by decide +kernel) rfl, by decide +kernel, by decide⟩
set_option maxRecDepth 20000 in
theorem ok_X7_isPair : mOk mm_X7_isPair 1 := ⟨mTb_of 1025 rfl rfl, mTb_of 90 (by decide +kernel) rfl, by decide +kernel, by decide⟩
set_option maxRecDepth 20000 in
theorem ok_X7_pair : mOk mm_X7_pair 3 := ⟨mTb_of 1029 rfl rfl, mTb_of 90 (by decide +kernel) rfl, by decide +kernel, by decide⟩
set_option maxRecDepth 20000 in
theorem ok_X7_many : mOk mm_X7_many 0 := ⟨mTb_of 1033 rfl rfl, mTb_of 90 (by decide +kernel) rfl, by decide +kernel, by decide⟩
set_option maxRecDepth 20000 in
theorem ok_X7_told : mOk mm_X7_told 2 := ⟨mTb_of 1037 rfl rfl, mTb_of 90 (by decide +kernel) rfl, by decide +kernel, by decide⟩
set_option maxRecDepth 20000 in
theorem ok_X7_take : mOk mm_X7_take 1 := ⟨mTb_of 1041 rfl rfl, mTb_of 90 (by decide +kernel) rfl, by decide +kernel, by decide⟩
set_option maxRecDepth 20000 in
theorem ok_X7_kind : mOk mm_X7_kind 1 := ⟨mTb_of 1045 rfl rfl, mTb_of 90 (by decide +kernel) rfl, by decide +kernel, by decide⟩
set_option maxRecDepth 20000 in
theorem ok_X7_number : mOk mm_X7_number 1 := ⟨mTb_of 1049 rfl rfl, mTb_of 90 (by decide +kernel) rfl, by decide +kernel, by decide⟩
set_option maxRecDepth 20000 in
theorem ok_X7_things : mOk mm_X7_things 0 := ⟨mTb_of 1053 rfl rfl, mTb_of 90 (by decide +kernel) rfl, by decide +kernel, by decide⟩
set_option maxRecDepth 20000 in
theorem ok_X7_anger : mOk mm_X7_anger 1 := ⟨mTb_of 1057 rfl rfl, mTb_of 90 (by decide +kernel) rfl, by decide +kernel, by decide⟩
set_option maxRecDepth 20000 in
theorem ok_X7_cools : mOk mm_X7_cools 1 := ⟨mTb_of 1061 rfl rfl, mTb_of 90 (by decide +kernel) rfl, by decide +kernel, by decide⟩
set_option maxRecDepth 20000 in
theorem ok_X7_tell : mOk mm_X7_tell 3 := ⟨mTb_of 1065 rfl rfl, mTb_of 90 (by decide +kernel) rfl, by decide +kernel, by decide⟩
set_option maxRecDepth 20000 in
theorem ok_X7_yes : mOk mm_X7_yes 1 := ⟨mTb_of 1068 rfl rfl, mTb_of 90 (by decide +kernel) rfl, by decide +kernel, by decide⟩
set_option maxRecDepth 20000 in
theorem ok_X7_deed : mOk mm_X7_deed 3 := ⟨mTb_of 1071 rfl rfl, mTb_of 90 (by decide +kernel) rfl, by decide +kernel, by decide⟩
set_option maxRecDepth 20000 in
theorem ok_X7_bound : mOk mm_X7_bound 3 := ⟨mTb_of 1074 rfl rfl, mTb_of 90 (by decide +kernel) rfl, by decide +kernel, by decide⟩
set_option maxRecDepth 20000 in
theorem ok_X7_far : mOk mm_X7_far 1 := ⟨mTb_of 1078 rfl rfl, mTb_of 90 (by decide +kernel) rfl, by decide +kernel, by decide⟩
set_option maxRecDepth 20000 in
theorem ok_X7_heats : mOk mm_X7_heats 2 := ⟨mTb_of 1082 rfl rfl, mTb_of 90 (by decide +kernel) rfl, by decide +kernel, by decide⟩
set_option maxRecDepth 20000 in
theorem ok_X7_feed : mOk mm_X7_feed 1 := ⟨mTb_of 1086 rfl rfl, mTb_of 90 (by decide +kernel) rfl, by decide +kernel, by decide⟩
set_option maxRecDepth 20000 in
theorem ok_X7_text : mOk mm_X7_text 0 := ⟨mTb_of 1090 rfl rfl, mTb_of 90 (by decide +kernel) rfl, by decide +kernel, by decide⟩
set_option maxRecDepth 20000 in
theorem ok_X7_isText : mOk mm_X7_isText 0 := ⟨mTb_of 1094 rfl rfl, mTb_of 90 (by decide +kernel) rfl, by decide +kernel, by decide⟩
set_option maxRecDepth 20000 in
theorem ok_X7_next : mOk mm_X7_next 0 := ⟨mTb_of 1098 rfl rfl, mTb_of 90 (by decide +kernel) rfl, by decide +kernel, by decide⟩
set_option maxRecDepth 20000 in
theorem ok_X7_sortAt : mOk mm_X7_sortAt 1 := ⟨mTb_of 1102 rfl rfl, mTb_of 90 (by decide +kernel) rfl, by decide +kernel, by decide⟩
set_option maxRecDepth 20000 in
theorem ok_X7_word : mOk mm_X7_word 0 := ⟨mTb_of 1106 rfl rfl, mTb_of 90 (by decide +kernel) rfl, by decide +kernel, by decide⟩
set_option maxRecDepth 20000 in
theorem ok_X7_isE : mOk mm_X7_isE 0 := ⟨mTb_of 1110 rfl rfl, mTb_of 90 (by decide +kernel) rfl, by decide +kernel, by decide⟩
set_option maxRecDepth 20000 in
theorem ok_X7_begin : mOk mm_X7_begin 0 := ⟨mTb_of 1114 rfl rfl, mTb_of 90 (by decide +kernel) rfl, by decide +kernel, by decide⟩
set_option maxRecDepth 20000 in
theorem ok_X7_write : mOk mm_X7_write 1 := ⟨mTb_of 1118 rfl rfl, mTb_of 90 (by decide +kernel) rfl, by decide +kernel, by decide⟩
set_option maxRecDepth 20000 in
theorem ok_X7_numberThere : mOk mm_X7_numberThere 0 := ⟨mTb_of 1122 rfl rfl, mTb_of 90 (by decide +kernel) rfl, by decide +kernel, by decide⟩
set_option maxRecDepth 20000 in
theorem ok_X7_isSign : mOk mm_X7_isSign 1 := ⟨mTb_of 1126 rfl rfl, mTb_of 90 (by decide +kernel) rfl, by decide +kernel, by decide⟩
set_option maxRecDepth 20000 in
theorem ok_X7_last : mOk mm_X7_last 0 := ⟨mTb_of 1130 rfl rfl, mTb_of 90 (by decide +kernel) rfl, by decide +kernel, by decide⟩
set_option maxRecDepth 20000 in
theorem ok_X7_rank : mOk mm_X7_rank 1 := ⟨mTb_of 1133 rfl rfl, mTb_of 90 (by decide +kernel) rfl, by decide +kernel, by decide⟩
set_option maxRecDepth 20000 in
theorem ok_X7_await : mOk mm_X7_await 1 := ⟨mTb_of 1137 rfl rfl, mTb_of 90 (by decide +kernel) rfl, by decide +kernel, by decide⟩
set_option maxRecDepth 20000 in
theorem ok_X7_settle : mOk mm_X7_settle 1 := ⟨mTb_of 1141 rfl rfl, mTb_of 90 (by decide +kernel) rfl, by decide +kernel, by decide⟩
set_option maxRecDepth 20000 in
theorem ok_X7_between : mOk mm_X7_between 0 := ⟨mTb_of 1145 rfl rfl, mTb_of 90 (by decide +kernel) rfl, by decide +kernel, by decide⟩
set_option maxRecDepth 20000 in
theorem ok_X7_force : mOk mm_X7_force 1 := ⟨mTb_of 1149 rfl rfl, mTb_of 90 (by decide +kernel) rfl, by decide +kernel, by decide⟩
set_option maxRecDepth 20000 in
theorem ok_X7_say : mOk mm_X7_say 2 := ⟨mTb_of 1153 rfl rfl, mTb_of 90 (by decide +kernel) rfl, by decide +kernel, by decide⟩
set_option maxRecDepth 20000 in
theorem ok_X7_behindWord : mOk mm_X7_behindWord 2 := ⟨mTb_of 1157 rfl rfl, mTb_of 90 (by decide +kernel) rfl, by decide +kernel, by decide⟩
set_option maxRecDepth 20000 in
theorem ok_X7_quiet : mOk mm_X7_quiet 1 := ⟨mTb_of 1161 rfl rfl, mTb_of 90 (by decide +kernel) rfl, by decide +kernel, by decide⟩
set_option maxRecDepth 20000 in
theorem ok_X7_behindMinute : mOk mm_X7_behindMinute 1 := ⟨mTb_of 1165 rfl rfl, mTb_of 90 (by decide +kernel) rfl, by decide +kernel, by decide⟩
set_option maxRecDepth 20000 in
theorem ok_X7_view : mOk mm_X7_view 1 := ⟨mTb_of 1169 rfl rfl, mTb_of 90 (by decide +kernel) rfl, by decide +kernel, by decide⟩
set_option maxRecDepth 20000 in
theorem ok_X7_sight : mOk mm_X7_sight 0 := ⟨mTb_of 1173 rfl rfl, mTb_of 90 (by decide +kernel) rfl, by decide +kernel, by decide⟩
set_option maxRecDepth 20000 in
theorem ok_X7_furthest : mOk mm_X7_furthest 0 := ⟨mTb_of 1177 rfl rfl, mTb_of 90 (by decide +kernel) rfl, by decide +kernel, by decide⟩
set_option maxRecDepth 20000 in
theorem ok_X7_sees : mOk mm_X7_sees 1 := ⟨mTb_of 1181 rfl rfl, mTb_of 90 (by decide +kernel) rfl, by decide +kernel, by decide⟩
set_option maxRecDepth 20000 in
theorem ok_X7_whomBy : mOk mm_X7_whomBy 2 := ⟨mTb_of 1185 rfl rfl, mTb_of 90 (by decide +kernel) rfl, by decide +kernel, by decide⟩
set_option maxRecDepth 20000 in
theorem ok_X7_fill : mOk mm_X7_fill 1 := ⟨mTb_of 1189 rfl rfl, mTb_of 90 (by decide +kernel) rfl, by decide +kernel, by decide⟩
set_option maxRecDepth 20000 in
theorem ok_X7_fillWants : mOk mm_X7_fillWants 1 := ⟨mTb_of 1193 rfl rfl, mTb_of 90 (by decide +kernel) rfl, by decide +kernel, by decide⟩
set_option maxRecDepth 20000 in
theorem ok_X7_clear : mOk mm_X7_clear 1 := ⟨mTb_of 1197 rfl rfl, mTb_of 90 (by decide +kernel) rfl, by decide +kernel, by decide⟩
set_option maxRecDepth 20000 in
theorem ok_X7_bits : mOk mm_X7_bits 1 := ⟨mTb_of 1201 rfl rfl, mTb_of 90 (by decide +kernel) rfl, by decide +kernel, by decide⟩
set_option maxRecDepth 20000 in
theorem ok_X7_farthestEver : mOk mm_X7_farthestEver 0 := ⟨mTb_of 1205 rfl rfl, mTb_of 90 (by decide +kernel) rfl, by decide +kernel, by decide⟩
set_option maxRecDepth 20000 in
theorem ok_X7_reach : mOk mm_X7_reach 1 := ⟨mTb_of 1209 rfl rfl, mTb_of 90 (by decide +kernel) rfl, by decide +kernel, by decide⟩
set_option maxRecDepth 20000 in
theorem ok_X7_fewest : mOk mm_X7_fewest 3 := ⟨mTb_of 1213 rfl rfl, mTb_of 90 (by decide +kernel) rfl, by decide +kernel, by decide⟩
set_option maxRecDepth 20000 in
theorem ok_X7_words : mOk mm_X7_words 2 := ⟨mTb_of 1217 rfl rfl, mTb_of 90 (by decide +kernel) rfl, by decide +kernel, by decide⟩
set_option maxRecDepth 20000 in
theorem ok_X7_stays : mOk mm_X7_stays 2 := ⟨mTb_of 1221 rfl rfl, mTb_of 90 (by decide +kernel) rfl, by decide +kernel, by decide⟩
set_option maxRecDepth 20000 in
theorem ok_X7_rows : mOk mm_X7_rows 4 := ⟨mTb_of 1225 rfl rfl, mTb_of 90 (by decide +kernel) rfl, by decide +kernel, by decide⟩
set_option maxRecDepth 20000 in
theorem ok_X7_gcd : mOk mm_X7_gcd 2 := ⟨mTb_of 1229 rfl rfl, mTb_of 90 (by decide +kernel) rfl, by decide +kernel, by decide⟩
set_option maxRecDepth 20000 in
theorem ok_X7_whom : mOk mm_X7_whom 2 := ⟨mTb_of 1233 rfl rfl, mTb_of 90 (by decide +kernel) rfl, by decide +kernel, by decide⟩
set_option maxRecDepth 20000 in
theorem ok_X7_sheet : mOk mm_X7_sheet 3 := ⟨mTb_of 1237 rfl rfl, mTb_of 90 (by decide +kernel) rfl, by decide +kernel, by decide⟩
set_option maxRecDepth 20000 in
theorem ok_X7_isSheet : mOk mm_X7_isSheet 1 := ⟨mTb_of 1240 rfl rfl, mTb_of 90 (by decide +kernel) rfl, by decide +kernel, by decide⟩
set_option maxRecDepth 20000 in
theorem ok_X7_cell : mOk mm_X7_cell 3 := ⟨mTb_of 1244 rfl rfl, mTb_of 90 (by decide +kernel) rfl, by decide +kernel, by decide⟩
set_option maxRecDepth 20000 in
theorem ok_X7_copy : mOk mm_X7_copy 5 := ⟨mTb_of 1248 rfl rfl, mTb_of 90 (by decide +kernel) rfl, by decide +kernel, by decide⟩
set_option maxRecDepth 20000 in
theorem ok_X7_pairs : mOk mm_X7_pairs 4 := ⟨mTb_of 1252 rfl rfl, mTb_of 90 (by decide +kernel) rfl, by decide +kernel, by decide⟩
set_option maxRecDepth 20000 in
theorem ok_X7_taken : mOk mm_X7_taken 2 := ⟨mTb_of 1257 rfl rfl, mTb_of 90 (by decide +kernel) rfl, by decide +kernel, by decide⟩
set_option maxRecDepth 20000 in
theorem ok_X7_tells : mOk mm_X7_tells 3 := ⟨mTb_of 1261 rfl rfl, mTb_of 90 (by decide +kernel) rfl, by decide +kernel, by decide⟩
set_option maxRecDepth 20000 in
theorem ok_X7_otherwise : mOk mm_X7_otherwise 2 := ⟨mTb_of 1265 rfl rfl, mTb_of 90 (by decide +kernel) rfl, by decide +kernel, by decide⟩
set_option maxRecDepth 20000 in
theorem ok_X7_fitAngers : mOk mm_X7_fitAngers 2 := ⟨mTb_of 1269 rfl rfl, mTb_of 90 (by decide +kernel) rfl, by decide +kernel, by decide⟩
set_option maxRecDepth 20000 in
theorem ok_X7_fits : mOk mm_X7_fits 2 := ⟨mTb_of 1273 rfl rfl, mTb_of 90 (by decide +kernel) rfl, by decide +kernel, by decide⟩
set_option maxRecDepth 20000 in
theorem ok_X7_film : mOk mm_X7_film 3 := ⟨mTb_of 1277 rfl rfl, mTb_of 90 (by decide +kernel) rfl, by decide +kernel, by decide⟩
set_option maxRecDepth 20000 in
theorem ok_X7_drawn : mOk mm_X7_drawn 3 := ⟨mTb_of 1282 rfl rfl, mTb_of 90 (by decide +kernel) rfl, by decide +kernel, by decide⟩
set_option maxRecDepth 20000 in
theorem ok_X7_farBehind : mOk mm_X7_farBehind 3 := ⟨mTb_of 1286 rfl rfl, mTb_of 90 (by decide +kernel) rfl, by decide +kernel, by decide⟩
set_option maxRecDepth 20000 in
theorem ok_X7_chance : mOk mm_X7_chance 5 := ⟨mTb_of 1291 rfl rfl, mTb_of 90 (by decide +kernel) rfl, by decide +kernel, by decide⟩
set_option maxRecDepth 20000 in
theorem ok_X7_image : mOk mm_X7_image 0 := ⟨mTb_of 1295 rfl rfl, mTb_of 90 (by decide +kernel) rfl, by decide +kernel, by decide⟩
set_option maxRecDepth 20000 in
theorem ok_X7_back : mOk mm_X7_back 0 := ⟨mTb_of 1299 rfl rfl, mTb_of 90 (by decide +kernel) rfl, by decide +kernel, by decide⟩
set_option maxRecDepth 20000 in
theorem ok_X7_count : mOk mm_X7_count 1 := ⟨mTb_of 1303 rfl rfl, mTb_of 90 (by decide +kernel) rfl, by decide +kernel, by decide⟩
theorem lk_X6_58 : mLV RX6 58 mm_J0_length_8abf5 0 := ⟨mTb_of 277 (by decide +kernel) rfl, mTb_of 278 (by decide +kernel) rfl, mTb_of 279 (by decide +kernel) rfl, ok_J0_length_8abf5⟩
theorem lk_X6_64 : mLV RX6 64 mm_J0_charAt_5068e 1 := ⟨mTb_of 287 (by decide +kernel) rfl, mTb_of 288 (by decide +kernel) rfl, mTb_of 289 (by decide +kernel) rfl, ok_J0_charAt_5068e⟩
theorem lk_X6_68 : mLV RX6 68 mm_X1_put 1 := ⟨mTb_of 325 (by decide +kernel) rfl, mTb_of 326 (by decide +kernel) rfl, mTb_of 327 (by decide +kernel) rfl, ok_X1_put⟩
theorem lk_X6_72 : mLV RX6 72 mm_X1_read 0 := ⟨mTb_of 332 (by decide +kernel) rfl, mTb_of 333 (by decide +kernel) rfl, mTb_of 334 (by decide +kernel) rfl, ok_X1_read⟩
theorem lk_X6_75 : mLV RX6 75 mm_X5_keep 0 := ⟨mTb_of 463 (by decide +kernel) rfl, mTb_of 464 (by decide +kernel) rfl, mTb_of 465 (by decide +kernel) rfl, ok_X5_keep⟩
theorem lk_X6_78 : mLV RX6 78 mm_X6_turnHour 1 := ⟨mTb_of 498 (by decide +kernel) rfl, mTb_of 500 (by decide +kernel) rfl, mTb_of 10 (by decide +kernel) rfl, ok_X6_turnHour⟩
theorem lk_X6_86 : mLS RX6 86 mm_X6_change 5 := ⟨mTb_of 503 (by decide +kernel) rfl, mTb_of 504 (by decide +kernel) rfl, ok_X6_change⟩
theorem lk_X6_100 : mLS RX6 100 mm_X6_within 2 := ⟨mTb_of 502 (by decide +kernel) rfl, mTb_of 330 (by decide +kernel) rfl, ok_X6_within⟩
theorem lk_X6_107 : mLV RX6 107 mm_X2_seat 3 := ⟨mTb_of 510 (by decide +kernel) rfl, mTb_of 511 (by decide +kernel) rfl, mTb_of 512 (by decide +kernel) rfl, ok_X2_seat⟩
theorem lk_X6_111 : mLS RX6 111 mm_X6_item 3 := ⟨mTb_of 518 (by decide +kernel) rfl, mTb_of 519 (by decide +kernel) rfl, ok_X6_item⟩
theorem lk_X6_121 : mLV RX6 121 mm_X6_felt 2 := ⟨mTb_of 521 (by decide +kernel) rfl, mTb_of 523 (by decide +kernel) rfl, mTb_of 11 (by decide +kernel) rfl, ok_X6_felt⟩
theorem lk_X6_125 : mLV RX6 125 mm_X2_has 1 := ⟨mTb_of 525 (by decide +kernel) rfl, mTb_of 526 (by decide +kernel) rfl, mTb_of 527 (by decide +kernel) rfl, ok_X2_has⟩
theorem lk_X6_128 : mLV RX6 128 mm_X4_of 2 := ⟨mTb_of 530 (by decide +kernel) rfl, mTb_of 531 (by decide +kernel) rfl, mTb_of 532 (by decide +kernel) rfl, ok_X4_of⟩
theorem lk_X6_132 : mLV RX6 132 mm_X2_angerOf 1 := ⟨mTb_of 545 (by decide +kernel) rfl, mTb_of 546 (by decide +kernel) rfl, mTb_of 547 (by decide +kernel) rfl, ok_X2_angerOf⟩
theorem lk_X6_135 : mLV RX6 135 mm_X4_cools 1 := ⟨mTb_of 550 (by decide +kernel) rfl, mTb_of 551 (by decide +kernel) rfl, mTb_of 552 (by decide +kernel) rfl, ok_X4_cools⟩
theorem lk_X6_138 : mLV RX6 138 mm_X4_far 1 := ⟨mTb_of 570 (by decide +kernel) rfl, mTb_of 571 (by decide +kernel) rfl, mTb_of 572 (by decide +kernel) rfl, ok_X4_far⟩
theorem lk_X6_141 : mLV RX6 141 mm_X4_heats 2 := ⟨mTb_of 578 (by decide +kernel) rfl, mTb_of 579 (by decide +kernel) rfl, mTb_of 580 (by decide +kernel) rfl, ok_X4_heats⟩
theorem lk_X6_149 : mLV RX6 149 mm_X4_heated 2 := ⟨mTb_of 607 (by decide +kernel) rfl, mTb_of 608 (by decide +kernel) rfl, mTb_of 609 (by decide +kernel) rfl, ok_X4_heated⟩
theorem lk_X6_152 : mLV RX6 152 mm_X2_hear 2 := ⟨mTb_of 612 (by decide +kernel) rfl, mTb_of 613 (by decide +kernel) rfl, mTb_of 614 (by decide +kernel) rfl, ok_X2_hear⟩
theorem lk_X6_156 : mLV RX6 156 mm_X6_cooledFor 2 := ⟨mTb_of 621 (by decide +kernel) rfl, mTb_of 623 (by decide +kernel) rfl, mTb_of 16 (by decide +kernel) rfl, ok_X6_cooledFor⟩
theorem lk_X6_159 : mLV RX6 159 mm_X4_cooled 1 := ⟨mTb_of 625 (by decide +kernel) rfl, mTb_of 626 (by decide +kernel) rfl, mTb_of 627 (by decide +kernel) rfl, ok_X4_cooled⟩
theorem lk_X6_162 : mLV RX6 162 mm_X6_furthest 0 := ⟨mTb_of 634 (by decide +kernel) rfl, mTb_of 636 (by decide +kernel) rfl, mTb_of 17 (by decide +kernel) rfl, ok_X6_furthest⟩
theorem lk_X6_165 : mLS RX6 165 mm_X6_milesBelow 1 := ⟨mTb_of 646 (by decide +kernel) rfl, mTb_of 647 (by decide +kernel) rfl, ok_X6_milesBelow⟩
theorem lk_X6_169 : mLV RX6 169 mm_X2_milesWithThing 0 := ⟨mTb_of 650 (by decide +kernel) rfl, mTb_of 536 (by decide +kernel) rfl, mTb_of 537 (by decide +kernel) rfl, ok_X2_milesWithThing⟩
theorem lk_X6_173 : mLS RX6 173 mm_J13_bitCount_95d88 1 := ⟨mTb_of 651 (by decide +kernel) rfl, mTb_of 540 (by decide +kernel) rfl, ok_J13_bitCount_95d88⟩
theorem lk_X6_179 : mLV RX6 179 mm_X2_furthestThing 1 := ⟨mTb_of 652 (by decide +kernel) rfl, mTb_of 653 (by decide +kernel) rfl, mTb_of 654 (by decide +kernel) rfl, ok_X2_furthestThing⟩
theorem lk_X6_182 : mLV RX6 182 mm_X6_furthestPair 0 := ⟨mTb_of 638 (by decide +kernel) rfl, mTb_of 640 (by decide +kernel) rfl, mTb_of 18 (by decide +kernel) rfl, ok_X6_furthestPair⟩
theorem lk_X6_185 : mLV RX6 185 mm_X2_furthestMileWithThing 1 := ⟨mTb_of 660 (by decide +kernel) rfl, mTb_of 657 (by decide +kernel) rfl, mTb_of 658 (by decide +kernel) rfl, ok_X2_furthestMileWithThing⟩
theorem lk_X6_188 : mLV RX6 188 mm_X6_nearest 2 := ⟨mTb_of 661 (by decide +kernel) rfl, mTb_of 663 (by decide +kernel) rfl, mTb_of 20 (by decide +kernel) rfl, ok_X6_nearest⟩
theorem lk_X6_191 : mLV RX6 191 mm_X6_furthestReached 0 := ⟨mTb_of 693 (by decide +kernel) rfl, mTb_of 695 (by decide +kernel) rfl, mTb_of 22 (by decide +kernel) rfl, ok_X6_furthestReached⟩
theorem lk_X6_198 : mLV RX6 198 mm_X6_farNow 1 := ⟨mTb_of 642 (by decide +kernel) rfl, mTb_of 644 (by decide +kernel) rfl, mTb_of 19 (by decide +kernel) rfl, ok_X6_farNow⟩
theorem lk_X6_201 : mLV RX6 201 mm_X0_spread 3 := ⟨mTb_of 665 (by decide +kernel) rfl, mTb_of 666 (by decide +kernel) rfl, mTb_of 667 (by decide +kernel) rfl, ok_X0_spread⟩
theorem lk_X6_205 : mLV RX6 205 mm_X0_furthest 1 := ⟨mTb_of 697 (by decide +kernel) rfl, mTb_of 698 (by decide +kernel) rfl, mTb_of 699 (by decide +kernel) rfl, ok_X0_furthest⟩
theorem lk_X6_208 : mLS RX6 208 mm_J9_max_7cf53 2 := ⟨mTb_of 565 (by decide +kernel) rfl, mTb_of 380 (by decide +kernel) rfl, ok_J9_max_7cf53⟩
theorem lk_X6_213 : mLV RX6 213 mm_X0_first 2 := ⟨mTb_of 680 (by decide +kernel) rfl, mTb_of 681 (by decide +kernel) rfl, mTb_of 682 (by decide +kernel) rfl, ok_X0_first⟩
theorem lk_X6_217 : mLV RX6 217 mm_X0_wordsTo 1 := ⟨mTb_of 685 (by decide +kernel) rfl, mTb_of 686 (by decide +kernel) rfl, mTb_of 687 (by decide +kernel) rfl, ok_X0_wordsTo⟩
theorem lk_X6_220 : mLV RX6 220 mm_X0_rowTo 1 := ⟨mTb_of 708 (by decide +kernel) rfl, mTb_of 709 (by decide +kernel) rfl, mTb_of 710 (by decide +kernel) rfl, ok_X0_rowTo⟩
theorem lk_X6_224 : mLV RX6 224 mm_X0_least 0 := ⟨mTb_of 717 (by decide +kernel) rfl, mTb_of 718 (by decide +kernel) rfl, mTb_of 719 (by decide +kernel) rfl, ok_X0_least⟩
theorem lk_X6_227 : mLV RX6 227 mm_X0_most 0 := ⟨mTb_of 722 (by decide +kernel) rfl, mTb_of 723 (by decide +kernel) rfl, mTb_of 724 (by decide +kernel) rfl, ok_X0_most⟩
theorem lk_X6_230 : mLV RX6 230 mm_X6_bestWord 1 := ⟨mTb_of 726 (by decide +kernel) rfl, mTb_of 728 (by decide +kernel) rfl, mTb_of 23 (by decide +kernel) rfl, ok_X6_bestWord⟩
theorem lk_X6_233 : mLV RX6 233 mm_X6_farBehind 2 := ⟨mTb_of 730 (by decide +kernel) rfl, mTb_of 732 (by decide +kernel) rfl, mTb_of 24 (by decide +kernel) rfl, ok_X6_farBehind⟩
theorem lk_X6_238 : mLV RX6 238 mm_X0_rowsTo 3 := ⟨mTb_of 743 (by decide +kernel) rfl, mTb_of 744 (by decide +kernel) rfl, mTb_of 745 (by decide +kernel) rfl, ok_X0_rowsTo⟩
theorem lk_X6_242 : mLS RX6 242 mm_X6_lowest 3 := ⟨mTb_of 757 (by decide +kernel) rfl, mTb_of 758 (by decide +kernel) rfl, ok_X6_lowest⟩
theorem lk_X6_246 : mLV RX6 246 mm_X3_missing 0 := ⟨mTb_of 771 (by decide +kernel) rfl, mTb_of 772 (by decide +kernel) rfl, mTb_of 773 (by decide +kernel) rfl, ok_X3_missing⟩
theorem lk_X6_250 : mLV RX6 250 mm_X6_firstOtherwise 2 := ⟨mTb_of 775 (by decide +kernel) rfl, mTb_of 777 (by decide +kernel) rfl, mTb_of 26 (by decide +kernel) rfl, ok_X6_firstOtherwise⟩
theorem lk_X6_254 : mLV RX6 254 mm_X6_fittingKinds 2 := ⟨mTb_of 784 (by decide +kernel) rfl, mTb_of 786 (by decide +kernel) rfl, mTb_of 27 (by decide +kernel) rfl, ok_X6_fittingKinds⟩
theorem lk_X6_257 : mLV RX6 257 mm_X6_fittingNumbers 2 := ⟨mTb_of 788 (by decide +kernel) rfl, mTb_of 790 (by decide +kernel) rfl, mTb_of 28 (by decide +kernel) rfl, ok_X6_fittingNumbers⟩
theorem lk_X6_260 : mLV RX6 260 mm_X6_fittingAngers 1 := ⟨mTb_of 796 (by decide +kernel) rfl, mTb_of 798 (by decide +kernel) rfl, mTb_of 29 (by decide +kernel) rfl, ok_X6_fittingAngers⟩
theorem lk_X6_264 : mLV RX6 264 mm_X6_leastFittingAnger 1 := ⟨mTb_of 800 (by decide +kernel) rfl, mTb_of 802 (by decide +kernel) rfl, mTb_of 30 (by decide +kernel) rfl, ok_X6_leastFittingAnger⟩
theorem lk_X6_267 : mLV RX6 267 mm_X6_fittingTexts 2 := ⟨mTb_of 804 (by decide +kernel) rfl, mTb_of 806 (by decide +kernel) rfl, mTb_of 31 (by decide +kernel) rfl, ok_X6_fittingTexts⟩
theorem lk_X6_270 : mLV RX6 270 mm_X6_fittingWords 2 := ⟨mTb_of 808 (by decide +kernel) rfl, mTb_of 810 (by decide +kernel) rfl, mTb_of 32 (by decide +kernel) rfl, ok_X6_fittingWords⟩
theorem lk_X6_273 : mLV RX6 273 mm_X6_fittingPairs 1 := ⟨mTb_of 812 (by decide +kernel) rfl, mTb_of 814 (by decide +kernel) rfl, mTb_of 33 (by decide +kernel) rfl, ok_X6_fittingPairs⟩
theorem lk_X6_277 : mLV RX6 277 mm_X3_at 1 := ⟨mTb_of 779 (by decide +kernel) rfl, mTb_of 780 (by decide +kernel) rfl, mTb_of 781 (by decide +kernel) rfl, ok_X3_at⟩
theorem lk_X6_283 : mLV RX6 283 mm_X4_renumber 1 := ⟨mTb_of 792 (by decide +kernel) rfl, mTb_of 793 (by decide +kernel) rfl, mTb_of 794 (by decide +kernel) rfl, ok_X4_renumber⟩
theorem lk_X6_288 : mLV RX6 288 mm_X3_become 2 := ⟨mTb_of 820 (by decide +kernel) rfl, mTb_of 821 (by decide +kernel) rfl, mTb_of 822 (by decide +kernel) rfl, ok_X3_become⟩
theorem lk_X6_291 : mLV RX6 291 mm_X3_put 2 := ⟨mTb_of 826 (by decide +kernel) rfl, mTb_of 827 (by decide +kernel) rfl, mTb_of 828 (by decide +kernel) rfl, ok_X3_put⟩
theorem lk_X6_293 : mLV RX6 293 mm_X6_farDrawn 3 := ⟨mTb_of 838 (by decide +kernel) rfl, mTb_of 840 (by decide +kernel) rfl, mTb_of 35 (by decide +kernel) rfl, ok_X6_farDrawn⟩
theorem lk_X6_297 : mLV RX6 297 mm_X2_become 1 := ⟨mTb_of 851 (by decide +kernel) rfl, mTb_of 852 (by decide +kernel) rfl, mTb_of 853 (by decide +kernel) rfl, ok_X2_become⟩
theorem lk_X6_304 : mLV RX6 304 mm_X2_toldOfAll 0 := ⟨mTb_of 864 (by decide +kernel) rfl, mTb_of 865 (by decide +kernel) rfl, mTb_of 866 (by decide +kernel) rfl, ok_X2_toldOfAll⟩
theorem lk_X6_310 : mLV RX6 310 mm_X3_holds 2 := ⟨mTb_of 880 (by decide +kernel) rfl, mTb_of 881 (by decide +kernel) rfl, mTb_of 882 (by decide +kernel) rfl, ok_X3_holds⟩
theorem lk_X6_322 : mLV RX6 322 mm_X6_pair 3 := ⟨mTb_of 889 (by decide +kernel) rfl, mTb_of 507 (by decide +kernel) rfl, mTb_of 508 (by decide +kernel) rfl, ok_X6_pair⟩
theorem lk_X6_325 : mLS RX6 325 mm_X6_isUnder 2 := ⟨mTb_of 894 (by decide +kernel) rfl, mTb_of 895 (by decide +kernel) rfl, ok_X6_isUnder⟩
theorem lk_X6_331 : mLS RX6 331 mm_J9_min_7cf53 2 := ⟨mTb_of 564 (by decide +kernel) rfl, mTb_of 383 (by decide +kernel) rfl, ok_J9_min_7cf53⟩
theorem lk_X6_334 : mLS RX6 334 mm_X6_bounded 3 := ⟨mTb_of 649 (by decide +kernel) rfl, mTb_of 562 (by decide +kernel) rfl, ok_X6_bounded⟩
theorem lk_X6_337 : mLS RX6 337 mm_X6_commonDivisor 2 := ⟨mTb_of 760 (by decide +kernel) rfl, mTb_of 761 (by decide +kernel) rfl, ok_X6_commonDivisor⟩
theorem lk_X0_34 : mLV RX0 34 mm_X4_of 2 := ⟨mTb_of 669 (by decide +kernel) rfl, mTb_of 531 (by decide +kernel) rfl, mTb_of 532 (by decide +kernel) rfl, ok_X4_of⟩
theorem lk_X0_40 : mLS RX0 40 mm_J7_fill_53178 2 := ⟨mTb_of 670 (by decide +kernel) rfl, mTb_of 671 (by decide +kernel) rfl, ok_J7_fill_53178⟩
theorem lk_X0_50 : mLV RX0 50 mm_X2_angerOf 1 := ⟨mTb_of 673 (by decide +kernel) rfl, mTb_of 546 (by decide +kernel) rfl, mTb_of 547 (by decide +kernel) rfl, ok_X2_angerOf⟩
theorem lk_X0_56 : mLV RX0 56 mm_X0_meet 3 := ⟨mTb_of 674 (by decide +kernel) rfl, mTb_of 676 (by decide +kernel) rfl, mTb_of 21 (by decide +kernel) rfl, ok_X0_meet⟩
theorem lk_X0_60 : mLV RX0 60 mm_X4_heated 2 := ⟨mTb_of 679 (by decide +kernel) rfl, mTb_of 608 (by decide +kernel) rfl, mTb_of 609 (by decide +kernel) rfl, ok_X4_heated⟩
theorem lk_X0_68 : mLV RX0 68 mm_X4_far 1 := ⟨mTb_of 684 (by decide +kernel) rfl, mTb_of 571 (by decide +kernel) rfl, mTb_of 572 (by decide +kernel) rfl, ok_X4_far⟩
theorem lk_X0_71 : mLV RX0 71 mm_X0_wordsTo 1 := ⟨mTb_of 712 (by decide +kernel) rfl, mTb_of 686 (by decide +kernel) rfl, mTb_of 687 (by decide +kernel) rfl, ok_X0_wordsTo⟩
theorem lk_X0_74 : mLS RX0 74 mm_J9_min_7cf53 2 := ⟨mTb_of 721 (by decide +kernel) rfl, mTb_of 383 (by decide +kernel) rfl, ok_J9_min_7cf53⟩
theorem lk_X0_79 : mLS RX0 79 mm_J9_max_7cf53 2 := ⟨mTb_of 701 (by decide +kernel) rfl, mTb_of 380 (by decide +kernel) rfl, ok_J9_max_7cf53⟩
theorem lk_X0_82 : mLS RX0 82 mm_J7_fill_d0a16 2 := ⟨mTb_of 747 (by decide +kernel) rfl, mTb_of 748 (by decide +kernel) rfl, ok_J7_fill_d0a16⟩
theorem lk_X0_85 : mLV RX0 85 mm_X0_sayOneMore 0 := ⟨mTb_of 750 (by decide +kernel) rfl, mTb_of 752 (by decide +kernel) rfl, mTb_of 25 (by decide +kernel) rfl, ok_X0_sayOneMore⟩
theorem lk_X1_33 : mLV RX1 33 mm_X5_begin 0 := ⟨mTb_of 336 (by decide +kernel) rfl, mTb_of 337 (by decide +kernel) rfl, mTb_of 338 (by decide +kernel) rfl, ok_X5_begin⟩
theorem lk_X1_38 : mLV RX1 38 mm_X1_advance 0 := ⟨mTb_of 340 (by decide +kernel) rfl, mTb_of 342 (by decide +kernel) rfl, mTb_of 0 (by decide +kernel) rfl, ok_X1_advance⟩
theorem lk_X1_41 : mLV RX1 41 mm_X1_need 1 := ⟨mTb_of 423 (by decide +kernel) rfl, mTb_of 425 (by decide +kernel) rfl, mTb_of 3 (by decide +kernel) rfl, ok_X1_need⟩
theorem lk_X1_45 : mLV RX1 45 mm_X1_chain 2 := ⟨mTb_of 431 (by decide +kernel) rfl, mTb_of 433 (by decide +kernel) rfl, mTb_of 5 (by decide +kernel) rfl, ok_X1_chain⟩
theorem lk_X1_49 : mLV RX1 49 mm_X5_endPart 1 := ⟨mTb_of 459 (by decide +kernel) rfl, mTb_of 460 (by decide +kernel) rfl, mTb_of 461 (by decide +kernel) rfl, ok_X5_endPart⟩
theorem lk_X1_55 : mLV RX1 55 mm_X1_refuse 0 := ⟨mTb_of 427 (by decide +kernel) rfl, mTb_of 429 (by decide +kernel) rfl, mTb_of 4 (by decide +kernel) rfl, ok_X1_refuse⟩
theorem lk_X1_61 : mLV RX1 61 mm_X1_link 2 := ⟨mTb_of 435 (by decide +kernel) rfl, mTb_of 437 (by decide +kernel) rfl, mTb_of 6 (by decide +kernel) rfl, ok_X1_link⟩
theorem lk_X1_64 : mLV RX1 64 mm_X1_joins 1 := ⟨mTb_of 455 (by decide +kernel) rfl, mTb_of 457 (by decide +kernel) rfl, mTb_of 9 (by decide +kernel) rfl, ok_X1_joins⟩
theorem lk_X1_68 : mLS RX1 68 mm_X1_stepOf 1 := ⟨mTb_of 452 (by decide +kernel) rfl, mTb_of 453 (by decide +kernel) rfl, ok_X1_stepOf⟩
theorem lk_X1_72 : mLV RX1 72 mm_X5_add 1 := ⟨mTb_of 443 (by decide +kernel) rfl, mTb_of 444 (by decide +kernel) rfl, mTb_of 445 (by decide +kernel) rfl, ok_X5_add⟩
theorem lk_X1_75 : mLV RX1 75 mm_X1_one 1 := ⟨mTb_of 439 (by decide +kernel) rfl, mTb_of 441 (by decide +kernel) rfl, mTb_of 7 (by decide +kernel) rfl, ok_X1_one⟩
theorem lk_X1_78 : mLV RX1 78 mm_X1_denial 1 := ⟨mTb_of 448 (by decide +kernel) rfl, mTb_of 450 (by decide +kernel) rfl, mTb_of 8 (by decide +kernel) rfl, ok_X1_denial⟩
theorem lk_X1_84 : mLS RX1 84 mm_X1_isBlank 1 := ⟨mTb_of 344 (by decide +kernel) rfl, mTb_of 345 (by decide +kernel) rfl, ok_X1_isBlank⟩
theorem lk_X1_87 : mLS RX1 87 mm_X1_isLetter 1 := ⟨mTb_of 347 (by decide +kernel) rfl, mTb_of 348 (by decide +kernel) rfl, ok_X1_isLetter⟩
theorem lk_X1_90 : mLV RX1 90 mm_X1_readSpelled 0 := ⟨mTb_of 350 (by decide +kernel) rfl, mTb_of 352 (by decide +kernel) rfl, mTb_of 1 (by decide +kernel) rfl, ok_X1_readSpelled⟩
theorem lk_X1_93 : mLS RX1 93 mm_X1_isDigit 1 := ⟨mTb_of 356 (by decide +kernel) rfl, mTb_of 357 (by decide +kernel) rfl, ok_X1_isDigit⟩
theorem lk_X1_96 : mLV RX1 96 mm_X1_readNumber 0 := ⟨mTb_of 359 (by decide +kernel) rfl, mTb_of 361 (by decide +kernel) rfl, mTb_of 2 (by decide +kernel) rfl, ok_X1_readNumber⟩
theorem lk_X1_101 : mLV RX1 101 mm_J0_indexOf_0f7a4 1 := ⟨mTb_of 364 (by decide +kernel) rfl, mTb_of 365 (by decide +kernel) rfl, mTb_of 366 (by decide +kernel) rfl, ok_J0_indexOf_0f7a4⟩
theorem lk_X1_108 : mLV RX1 108 mm_J0_charAt_5068e 1 := ⟨mTb_of 355 (by decide +kernel) rfl, mTb_of 288 (by decide +kernel) rfl, mTb_of 289 (by decide +kernel) rfl, ok_J0_charAt_5068e⟩
theorem lk_X2_47 : mLV RX2 47 mm_X2_has 1 := ⟨mTb_of 549 (by decide +kernel) rfl, mTb_of 526 (by decide +kernel) rfl, mTb_of 527 (by decide +kernel) rfl, ok_X2_has⟩
theorem lk_X2_51 : mLS RX2 51 mm_J9_min_7cf53 2 := ⟨mTb_of 616 (by decide +kernel) rfl, mTb_of 383 (by decide +kernel) rfl, ok_J9_min_7cf53⟩
theorem lk_X2_57 : mLV RX2 57 mm_X2_furthestMileWithThing 1 := ⟨mTb_of 656 (by decide +kernel) rfl, mTb_of 657 (by decide +kernel) rfl, mTb_of 658 (by decide +kernel) rfl, ok_X2_furthestMileWithThing⟩
theorem lk_X3_26 : mLS RX3 26 mm_J7_fill_53178 2 := ⟨mTb_of 825 (by decide +kernel) rfl, mTb_of 671 (by decide +kernel) rfl, ok_J7_fill_53178⟩
theorem lk_X3_36 : mLV RX3 36 mm_X3_cut 1 := ⟨mTb_of 830 (by decide +kernel) rfl, mTb_of 832 (by decide +kernel) rfl, mTb_of 34 (by decide +kernel) rfl, ok_X3_cut⟩
theorem lk_X4_19 : mLV RX4 19 mm_X2_has 1 := ⟨mTb_of 534 (by decide +kernel) rfl, mTb_of 526 (by decide +kernel) rfl, mTb_of 527 (by decide +kernel) rfl, ok_X2_has⟩
theorem lk_X4_42 : mLV RX4 42 mm_X2_milesWithThing 0 := ⟨mTb_of 535 (by decide +kernel) rfl, mTb_of 536 (by decide +kernel) rfl, mTb_of 537 (by decide +kernel) rfl, ok_X2_milesWithThing⟩
theorem lk_X4_46 : mLS RX4 46 mm_J13_bitCount_95d88 1 := ⟨mTb_of 539 (by decide +kernel) rfl, mTb_of 540 (by decide +kernel) rfl, ok_J13_bitCount_95d88⟩
theorem lk_X4_55 : mLV RX4 55 mm_X5_worth 3 := ⟨mTb_of 554 (by decide +kernel) rfl, mTb_of 555 (by decide +kernel) rfl, mTb_of 556 (by decide +kernel) rfl, ok_X5_worth⟩
theorem lk_X4_65 : mLV RX4 65 mm_X4_heatsOfKind 3 := ⟨mTb_of 582 (by decide +kernel) rfl, mTb_of 584 (by decide +kernel) rfl, mTb_of 14 (by decide +kernel) rfl, ok_X4_heatsOfKind⟩
theorem lk_X4_68 : mLV RX4 68 mm_X4_coolsOfKind 2 := ⟨mTb_of 566 (by decide +kernel) rfl, mTb_of 568 (by decide +kernel) rfl, mTb_of 12 (by decide +kernel) rfl, ok_X4_coolsOfKind⟩
theorem lk_X4_72 : mLV RX4 72 mm_X4_farOfKind 2 := ⟨mTb_of 574 (by decide +kernel) rfl, mTb_of 576 (by decide +kernel) rfl, mTb_of 13 (by decide +kernel) rfl, ok_X4_farOfKind⟩
theorem lk_X4_75 : mLV RX4 75 mm_X4_heats 2 := ⟨mTb_of 611 (by decide +kernel) rfl, mTb_of 579 (by decide +kernel) rfl, mTb_of 580 (by decide +kernel) rfl, ok_X4_heats⟩
theorem lk_X4_78 : mLV RX4 78 mm_X4_cools 1 := ⟨mTb_of 629 (by decide +kernel) rfl, mTb_of 551 (by decide +kernel) rfl, mTb_of 552 (by decide +kernel) rfl, ok_X4_cools⟩
theorem lk_X4_82 : mLV RX4 82 mm_X4_heatsOfWed 2 := ⟨mTb_of 586 (by decide +kernel) rfl, mTb_of 588 (by decide +kernel) rfl, mTb_of 15 (by decide +kernel) rfl, ok_X4_heatsOfWed⟩
theorem lk_X4_85 : mLS RX4 85 mm_J9_max_7cf53 2 := ⟨mTb_of 590 (by decide +kernel) rfl, mTb_of 380 (by decide +kernel) rfl, ok_J9_max_7cf53⟩
theorem lk_X5_32 : mLS RX5 32 mm_J9_min_7cf53 2 := ⟨mTb_of 467 (by decide +kernel) rfl, mTb_of 383 (by decide +kernel) rfl, ok_J9_min_7cf53⟩
theorem lk_X5_38 : mLS RX5 38 mm_X5_joined 3 := ⟨mTb_of 558 (by decide +kernel) rfl, mTb_of 559 (by decide +kernel) rfl, ok_X5_joined⟩
theorem lk_L_13 : mLV RL 13 mm_X6_set 3 := ⟨mTb_of 494 (by decide +kernel) rfl, mTb_of 495 (by decide +kernel) rfl, mTb_of 496 (by decide +kernel) rfl, ok_X6_set⟩
theorem lk_L_17 : mLV RL 17 mm_X7_set 3 := ⟨mTb_of 1008 (by decide +kernel) rfl, mTb_of 1009 (by decide +kernel) rfl, mTb_of 1010 (by decide +kernel) rfl, ok_X7_set⟩
theorem lk_L_18 : mLV RL 18 mm_X6_pair 3 := ⟨mTb_of 506 (by decide +kernel) rfl, mTb_of 507 (by decide +kernel) rfl, mTb_of 508 (by decide +kernel) rfl, ok_X6_pair⟩
theorem lk_L_21 : mLV RL 21 mm_X7_pair 3 := ⟨mTb_of 1026 (by decide +kernel) rfl, mTb_of 1027 (by decide +kernel) rfl, mTb_of 1028 (by decide +kernel) rfl, ok_X7_pair⟩
theorem lk_L_22 : mLV RL 22 mm_X6_told 2 := ⟨mTb_of 514 (by decide +kernel) rfl, mTb_of 515 (by decide +kernel) rfl, mTb_of 516 (by decide +kernel) rfl, ok_X6_told⟩
theorem lk_L_26 : mLV RL 26 mm_X7_told 2 := ⟨mTb_of 1034 (by decide +kernel) rfl, mTb_of 1035 (by decide +kernel) rfl, mTb_of 1036 (by decide +kernel) rfl, ok_X7_told⟩
theorem lk_L_27 : mLV RL 27 mm_X6_feed 1 := ⟨mTb_of 591 (by decide +kernel) rfl, mTb_of 592 (by decide +kernel) rfl, mTb_of 593 (by decide +kernel) rfl, ok_X6_feed⟩
theorem lk_L_31 : mLV RL 31 mm_X7_feed 1 := ⟨mTb_of 1083 (by decide +kernel) rfl, mTb_of 1084 (by decide +kernel) rfl, mTb_of 1085 (by decide +kernel) rfl, ok_X7_feed⟩
theorem lk_L_32 : mLV RL 32 mm_X6_text 0 := ⟨mTb_of 595 (by decide +kernel) rfl, mTb_of 596 (by decide +kernel) rfl, mTb_of 597 (by decide +kernel) rfl, ok_X6_text⟩
theorem lk_L_36 : mLV RL 36 mm_X7_text 0 := ⟨mTb_of 1087 (by decide +kernel) rfl, mTb_of 1088 (by decide +kernel) rfl, mTb_of 1089 (by decide +kernel) rfl, ok_X7_text⟩
theorem lk_L_37 : mLV RL 37 mm_X6_force 1 := ⟨mTb_of 599 (by decide +kernel) rfl, mTb_of 600 (by decide +kernel) rfl, mTb_of 601 (by decide +kernel) rfl, ok_X6_force⟩
theorem lk_L_40 : mLV RL 40 mm_X7_force 1 := ⟨mTb_of 1146 (by decide +kernel) rfl, mTb_of 1147 (by decide +kernel) rfl, mTb_of 1148 (by decide +kernel) rfl, ok_X7_force⟩
theorem lk_L_41 : mLV RL 41 mm_X6_say 2 := ⟨mTb_of 603 (by decide +kernel) rfl, mTb_of 604 (by decide +kernel) rfl, mTb_of 605 (by decide +kernel) rfl, ok_X6_say⟩
theorem lk_L_44 : mLV RL 44 mm_X7_say 2 := ⟨mTb_of 1150 (by decide +kernel) rfl, mTb_of 1151 (by decide +kernel) rfl, mTb_of 1152 (by decide +kernel) rfl, ok_X7_say⟩
theorem lk_L_45 : mLV RL 45 mm_X6_quiet 1 := ⟨mTb_of 617 (by decide +kernel) rfl, mTb_of 618 (by decide +kernel) rfl, mTb_of 619 (by decide +kernel) rfl, ok_X6_quiet⟩
theorem lk_L_48 : mLV RL 48 mm_X7_quiet 1 := ⟨mTb_of 1158 (by decide +kernel) rfl, mTb_of 1159 (by decide +kernel) rfl, mTb_of 1160 (by decide +kernel) rfl, ok_X7_quiet⟩
theorem lk_L_49 : mLV RL 49 mm_X6_view 1 := ⟨mTb_of 630 (by decide +kernel) rfl, mTb_of 631 (by decide +kernel) rfl, mTb_of 632 (by decide +kernel) rfl, ok_X6_view⟩
theorem lk_L_52 : mLV RL 52 mm_X7_view 1 := ⟨mTb_of 1166 (by decide +kernel) rfl, mTb_of 1167 (by decide +kernel) rfl, mTb_of 1168 (by decide +kernel) rfl, ok_X7_view⟩
theorem lk_L_53 : mLV RL 53 mm_X6_clear 1 := ⟨mTb_of 689 (by decide +kernel) rfl, mTb_of 690 (by decide +kernel) rfl, mTb_of 691 (by decide +kernel) rfl, ok_X6_clear⟩
theorem lk_L_57 : mLV RL 57 mm_X7_clear 1 := ⟨mTb_of 1194 (by decide +kernel) rfl, mTb_of 1195 (by decide +kernel) rfl, mTb_of 1196 (by decide +kernel) rfl, ok_X7_clear⟩
theorem lk_L_58 : mLV RL 58 mm_X6_fewest 3 := ⟨mTb_of 704 (by decide +kernel) rfl, mTb_of 705 (by decide +kernel) rfl, mTb_of 706 (by decide +kernel) rfl, ok_X6_fewest⟩
theorem lk_L_61 : mLV RL 61 mm_X7_fewest 3 := ⟨mTb_of 1210 (by decide +kernel) rfl, mTb_of 1211 (by decide +kernel) rfl, mTb_of 1212 (by decide +kernel) rfl, ok_X7_fewest⟩
theorem lk_L_62 : mLV RL 62 mm_X6_words 2 := ⟨mTb_of 713 (by decide +kernel) rfl, mTb_of 714 (by decide +kernel) rfl, mTb_of 715 (by decide +kernel) rfl, ok_X6_words⟩
theorem lk_L_65 : mLV RL 65 mm_X7_words 2 := ⟨mTb_of 1214 (by decide +kernel) rfl, mTb_of 1215 (by decide +kernel) rfl, mTb_of 1216 (by decide +kernel) rfl, ok_X7_words⟩
theorem lk_L_66 : mLV RL 66 mm_X6_stays 2 := ⟨mTb_of 734 (by decide +kernel) rfl, mTb_of 735 (by decide +kernel) rfl, mTb_of 736 (by decide +kernel) rfl, ok_X6_stays⟩
theorem lk_L_69 : mLV RL 69 mm_X7_stays 2 := ⟨mTb_of 1218 (by decide +kernel) rfl, mTb_of 1219 (by decide +kernel) rfl, mTb_of 1220 (by decide +kernel) rfl, ok_X7_stays⟩
theorem lk_L_70 : mLV RL 70 mm_X6_rows 4 := ⟨mTb_of 738 (by decide +kernel) rfl, mTb_of 739 (by decide +kernel) rfl, mTb_of 740 (by decide +kernel) rfl, ok_X6_rows⟩
theorem lk_L_74 : mLV RL 74 mm_X7_rows 4 := ⟨mTb_of 1222 (by decide +kernel) rfl, mTb_of 1223 (by decide +kernel) rfl, mTb_of 1224 (by decide +kernel) rfl, ok_X7_rows⟩
theorem lk_L_75 : mLV RL 75 mm_X6_whom 2 := ⟨mTb_of 763 (by decide +kernel) rfl, mTb_of 764 (by decide +kernel) rfl, mTb_of 765 (by decide +kernel) rfl, ok_X6_whom⟩
theorem lk_L_78 : mLV RL 78 mm_X7_whom 2 := ⟨mTb_of 1230 (by decide +kernel) rfl, mTb_of 1231 (by decide +kernel) rfl, mTb_of 1232 (by decide +kernel) rfl, ok_X7_whom⟩
theorem lk_L_79 : mLV RL 79 mm_X6_tells 3 := ⟨mTb_of 767 (by decide +kernel) rfl, mTb_of 768 (by decide +kernel) rfl, mTb_of 769 (by decide +kernel) rfl, ok_X6_tells⟩
theorem lk_L_82 : mLV RL 82 mm_X7_tells 3 := ⟨mTb_of 1258 (by decide +kernel) rfl, mTb_of 1259 (by decide +kernel) rfl, mTb_of 1260 (by decide +kernel) rfl, ok_X7_tells⟩
theorem lk_L_83 : mLV RL 83 mm_X6_film 3 := ⟨mTb_of 816 (by decide +kernel) rfl, mTb_of 817 (by decide +kernel) rfl, mTb_of 818 (by decide +kernel) rfl, ok_X6_film⟩
theorem lk_L_86 : mLV RL 86 mm_X7_film 3 := ⟨mTb_of 1274 (by decide +kernel) rfl, mTb_of 1275 (by decide +kernel) rfl, mTb_of 1276 (by decide +kernel) rfl, ok_X7_film⟩
theorem lk_L_87 : mLV RL 87 mm_X6_drawn 3 := ⟨mTb_of 834 (by decide +kernel) rfl, mTb_of 835 (by decide +kernel) rfl, mTb_of 836 (by decide +kernel) rfl, ok_X6_drawn⟩
theorem lk_L_90 : mLV RL 90 mm_X7_drawn 3 := ⟨mTb_of 1279 (by decide +kernel) rfl, mTb_of 1280 (by decide +kernel) rfl, mTb_of 1281 (by decide +kernel) rfl, ok_X7_drawn⟩
theorem lk_L_91 : mLV RL 91 mm_X6_chance 5 := ⟨mTb_of 843 (by decide +kernel) rfl, mTb_of 844 (by decide +kernel) rfl, mTb_of 845 (by decide +kernel) rfl, ok_X6_chance⟩
theorem lk_L_95 : mLV RL 95 mm_X7_chance 5 := ⟨mTb_of 1288 (by decide +kernel) rfl, mTb_of 1289 (by decide +kernel) rfl, mTb_of 1290 (by decide +kernel) rfl, ok_X7_chance⟩
theorem lk_L_96 : mLV RL 96 mm_X6_image 0 := ⟨mTb_of 847 (by decide +kernel) rfl, mTb_of 848 (by decide +kernel) rfl, mTb_of 849 (by decide +kernel) rfl, ok_X6_image⟩
theorem lk_L_99 : mLV RL 99 mm_X7_image 0 := ⟨mTb_of 1292 (by decide +kernel) rfl, mTb_of 1293 (by decide +kernel) rfl, mTb_of 1294 (by decide +kernel) rfl, ok_X7_image⟩
theorem lk_L_100 : mLV RL 100 mm_X6_back 0 := ⟨mTb_of 856 (by decide +kernel) rfl, mTb_of 857 (by decide +kernel) rfl, mTb_of 858 (by decide +kernel) rfl, ok_X6_back⟩
theorem lk_L_103 : mLV RL 103 mm_X7_back 0 := ⟨mTb_of 1296 (by decide +kernel) rfl, mTb_of 1297 (by decide +kernel) rfl, mTb_of 1298 (by decide +kernel) rfl, ok_X7_back⟩
theorem lk_L_104 : mLV RL 104 mm_X6_count 1 := ⟨mTb_of 860 (by decide +kernel) rfl, mTb_of 861 (by decide +kernel) rfl, mTb_of 862 (by decide +kernel) rfl, ok_X6_count⟩
theorem lk_L_107 : mLV RL 107 mm_X7_count 1 := ⟨mTb_of 1300 (by decide +kernel) rfl, mTb_of 1301 (by decide +kernel) rfl, mTb_of 1302 (by decide +kernel) rfl, ok_X7_count⟩
theorem lk_L_108 : mLV RL 108 mm_X6_sheet 3 := ⟨mTb_of 868 (by decide +kernel) rfl, mTb_of 869 (by decide +kernel) rfl, mTb_of 870 (by decide +kernel) rfl, ok_X6_sheet⟩
theorem lk_L_111 : mLV RL 111 mm_X7_sheet 3 := ⟨mTb_of 1234 (by decide +kernel) rfl, mTb_of 1235 (by decide +kernel) rfl, mTb_of 1236 (by decide +kernel) rfl, ok_X7_sheet⟩
theorem lk_L_112 : mLV RL 112 mm_X6_cell 3 := ⟨mTb_of 872 (by decide +kernel) rfl, mTb_of 873 (by decide +kernel) rfl, mTb_of 874 (by decide +kernel) rfl, ok_X6_cell⟩
theorem lk_L_115 : mLV RL 115 mm_X7_cell 3 := ⟨mTb_of 1241 (by decide +kernel) rfl, mTb_of 1242 (by decide +kernel) rfl, mTb_of 1243 (by decide +kernel) rfl, ok_X7_cell⟩
theorem lk_L_116 : mLV RL 116 mm_X6_copy 5 := ⟨mTb_of 876 (by decide +kernel) rfl, mTb_of 877 (by decide +kernel) rfl, mTb_of 878 (by decide +kernel) rfl, ok_X6_copy⟩
theorem lk_L_120 : mLV RL 120 mm_X7_copy 5 := ⟨mTb_of 1245 (by decide +kernel) rfl, mTb_of 1246 (by decide +kernel) rfl, mTb_of 1247 (by decide +kernel) rfl, ok_X7_copy⟩
theorem lk_L_121 : mLV RL 121 mm_X6_pairs 4 := ⟨mTb_of 885 (by decide +kernel) rfl, mTb_of 886 (by decide +kernel) rfl, mTb_of 887 (by decide +kernel) rfl, ok_X6_pairs⟩
theorem lk_L_125 : mLV RL 125 mm_X7_pairs 4 := ⟨mTb_of 1249 (by decide +kernel) rfl, mTb_of 1250 (by decide +kernel) rfl, mTb_of 1251 (by decide +kernel) rfl, ok_X7_pairs⟩
theorem lk_L_126 : mLV RL 126 mm_X6_taken 2 := ⟨mTb_of 890 (by decide +kernel) rfl, mTb_of 891 (by decide +kernel) rfl, mTb_of 892 (by decide +kernel) rfl, ok_X6_taken⟩
theorem lk_L_129 : mLV RL 129 mm_X7_taken 2 := ⟨mTb_of 1254 (by decide +kernel) rfl, mTb_of 1255 (by decide +kernel) rfl, mTb_of 1256 (by decide +kernel) rfl, ok_X7_taken⟩
theorem lk_X7_25 : mLV RX7 25 mm_X7_firstText 0 := ⟨mTb_of 905 (by decide +kernel) rfl, mTb_of 907 (by decide +kernel) rfl, mTb_of 36 (by decide +kernel) rfl, ok_X7_firstText⟩
theorem lk_X7_78 : mLS RX7 78 mm_X7_isIn 3 := ⟨mTb_of 1012 (by decide +kernel) rfl, mTb_of 1013 (by decide +kernel) rfl, ok_X7_isIn⟩
theorem lk_X7_82 : mLV RX7 82 mm_X7_isPair 1 := ⟨mTb_of 1022 (by decide +kernel) rfl, mTb_of 1024 (by decide +kernel) rfl, mTb_of 38 (by decide +kernel) rfl, ok_X7_isPair⟩
theorem lk_X7_86 : mLS RX7 86 mm_X7_most 1 := ⟨mTb_of 1015 (by decide +kernel) rfl, mTb_of 1016 (by decide +kernel) rfl, ok_X7_most⟩
theorem lk_X7_90 : mLV RX7 90 mm_X7_place 2 := ⟨mTb_of 1018 (by decide +kernel) rfl, mTb_of 1020 (by decide +kernel) rfl, mTb_of 37 (by decide +kernel) rfl, ok_X7_place⟩
theorem lk_X7_94 : mLV RX7 94 mm_X7_many 0 := ⟨mTb_of 1030 (by decide +kernel) rfl, mTb_of 1032 (by decide +kernel) rfl, mTb_of 39 (by decide +kernel) rfl, ok_X7_many⟩
theorem lk_X7_97 : mLV RX7 97 mm_X7_take 1 := ⟨mTb_of 1038 (by decide +kernel) rfl, mTb_of 1040 (by decide +kernel) rfl, mTb_of 40 (by decide +kernel) rfl, ok_X7_take⟩
theorem lk_X7_101 : mLV RX7 101 mm_X7_anger 1 := ⟨mTb_of 1054 (by decide +kernel) rfl, mTb_of 1056 (by decide +kernel) rfl, mTb_of 44 (by decide +kernel) rfl, ok_X7_anger⟩
theorem lk_X7_104 : mLV RX7 104 mm_X7_number 1 := ⟨mTb_of 1046 (by decide +kernel) rfl, mTb_of 1048 (by decide +kernel) rfl, mTb_of 42 (by decide +kernel) rfl, ok_X7_number⟩
theorem lk_X7_107 : mLV RX7 107 mm_X7_kind 1 := ⟨mTb_of 1042 (by decide +kernel) rfl, mTb_of 1044 (by decide +kernel) rfl, mTb_of 41 (by decide +kernel) rfl, ok_X7_kind⟩
theorem lk_X7_110 : mLV RX7 110 mm_X7_cools 1 := ⟨mTb_of 1058 (by decide +kernel) rfl, mTb_of 1060 (by decide +kernel) rfl, mTb_of 45 (by decide +kernel) rfl, ok_X7_cools⟩
theorem lk_X7_113 : mLV RX7 113 mm_X7_far 1 := ⟨mTb_of 1075 (by decide +kernel) rfl, mTb_of 1077 (by decide +kernel) rfl, mTb_of 47 (by decide +kernel) rfl, ok_X7_far⟩
theorem lk_X7_116 : mLV RX7 116 mm_X7_heats 2 := ⟨mTb_of 1079 (by decide +kernel) rfl, mTb_of 1081 (by decide +kernel) rfl, mTb_of 48 (by decide +kernel) rfl, ok_X7_heats⟩
theorem lk_X7_128 : mLV RX7 128 mm_X7_sortAt 1 := ⟨mTb_of 1099 (by decide +kernel) rfl, mTb_of 1101 (by decide +kernel) rfl, mTb_of 51 (by decide +kernel) rfl, ok_X7_sortAt⟩
theorem lk_X7_140 : mLS RX7 140 mm_X7_rank 1 := ⟨mTb_of 1131 (by decide +kernel) rfl, mTb_of 1132 (by decide +kernel) rfl, ok_X7_rank⟩
theorem lk_X7_143 : mLV RX7 143 mm_X7_last 0 := ⟨mTb_of 1127 (by decide +kernel) rfl, mTb_of 1129 (by decide +kernel) rfl, mTb_of 58 (by decide +kernel) rfl, ok_X7_last⟩
theorem lk_X7_146 : mLV RX7 146 mm_X7_write 1 := ⟨mTb_of 1115 (by decide +kernel) rfl, mTb_of 1117 (by decide +kernel) rfl, mTb_of 55 (by decide +kernel) rfl, ok_X7_write⟩
theorem lk_X7_152 : mLV RX7 152 mm_X7_word 0 := ⟨mTb_of 1103 (by decide +kernel) rfl, mTb_of 1105 (by decide +kernel) rfl, mTb_of 52 (by decide +kernel) rfl, ok_X7_word⟩
theorem lk_X7_155 : mLV RX7 155 mm_X7_isSign 1 := ⟨mTb_of 1123 (by decide +kernel) rfl, mTb_of 1125 (by decide +kernel) rfl, mTb_of 57 (by decide +kernel) rfl, ok_X7_isSign⟩
theorem lk_X7_158 : mLV RX7 158 mm_X7_numberThere 0 := ⟨mTb_of 1119 (by decide +kernel) rfl, mTb_of 1121 (by decide +kernel) rfl, mTb_of 56 (by decide +kernel) rfl, ok_X7_numberThere⟩
theorem lk_X7_161 : mLV RX7 161 mm_X7_await 1 := ⟨mTb_of 1134 (by decide +kernel) rfl, mTb_of 1136 (by decide +kernel) rfl, mTb_of 59 (by decide +kernel) rfl, ok_X7_await⟩
theorem lk_X7_164 : mLV RX7 164 mm_X7_begin 0 := ⟨mTb_of 1111 (by decide +kernel) rfl, mTb_of 1113 (by decide +kernel) rfl, mTb_of 54 (by decide +kernel) rfl, ok_X7_begin⟩
theorem lk_X7_167 : mLV RX7 167 mm_X7_next 0 := ⟨mTb_of 1095 (by decide +kernel) rfl, mTb_of 1097 (by decide +kernel) rfl, mTb_of 50 (by decide +kernel) rfl, ok_X7_next⟩
theorem lk_X7_170 : mLV RX7 170 mm_X7_settle 1 := ⟨mTb_of 1138 (by decide +kernel) rfl, mTb_of 1140 (by decide +kernel) rfl, mTb_of 60 (by decide +kernel) rfl, ok_X7_settle⟩
theorem lk_X7_173 : mLV RX7 173 mm_X7_between 0 := ⟨mTb_of 1142 (by decide +kernel) rfl, mTb_of 1144 (by decide +kernel) rfl, mTb_of 61 (by decide +kernel) rfl, ok_X7_between⟩
theorem lk_X7_176 : mLV RX7 176 mm_X7_isE 0 := ⟨mTb_of 1107 (by decide +kernel) rfl, mTb_of 1109 (by decide +kernel) rfl, mTb_of 53 (by decide +kernel) rfl, ok_X7_isE⟩
theorem lk_X7_180 : mLV RX7 180 mm_X7_isText 0 := ⟨mTb_of 1091 (by decide +kernel) rfl, mTb_of 1093 (by decide +kernel) rfl, mTb_of 49 (by decide +kernel) rfl, ok_X7_isText⟩
theorem lk_X7_183 : mLS RX7 183 mm_X7_yes 1 := ⟨mTb_of 1066 (by decide +kernel) rfl, mTb_of 1067 (by decide +kernel) rfl, ok_X7_yes⟩
theorem lk_X7_196 : mLS RX7 196 mm_X7_deed 3 := ⟨mTb_of 1069 (by decide +kernel) rfl, mTb_of 1070 (by decide +kernel) rfl, ok_X7_deed⟩
theorem lk_X7_203 : mLV RX7 203 mm_X7_things 0 := ⟨mTb_of 1050 (by decide +kernel) rfl, mTb_of 1052 (by decide +kernel) rfl, mTb_of 43 (by decide +kernel) rfl, ok_X7_things⟩
theorem lk_X7_206 : mLV RX7 206 mm_X7_tell 3 := ⟨mTb_of 1062 (by decide +kernel) rfl, mTb_of 1064 (by decide +kernel) rfl, mTb_of 46 (by decide +kernel) rfl, ok_X7_tell⟩
theorem lk_X7_209 : mLS RX7 209 mm_X7_bound 3 := ⟨mTb_of 1072 (by decide +kernel) rfl, mTb_of 1073 (by decide +kernel) rfl, ok_X7_bound⟩
theorem lk_X7_212 : mLV RX7 212 mm_X7_behindWord 2 := ⟨mTb_of 1154 (by decide +kernel) rfl, mTb_of 1156 (by decide +kernel) rfl, mTb_of 62 (by decide +kernel) rfl, ok_X7_behindWord⟩
theorem lk_X7_215 : mLV RX7 215 mm_X7_behindMinute 1 := ⟨mTb_of 1162 (by decide +kernel) rfl, mTb_of 1164 (by decide +kernel) rfl, mTb_of 63 (by decide +kernel) rfl, ok_X7_behindMinute⟩
theorem lk_X7_218 : mLV RX7 218 mm_X7_sees 1 := ⟨mTb_of 1178 (by decide +kernel) rfl, mTb_of 1180 (by decide +kernel) rfl, mTb_of 66 (by decide +kernel) rfl, ok_X7_sees⟩
theorem lk_X7_221 : mLV RX7 221 mm_X7_furthest 0 := ⟨mTb_of 1174 (by decide +kernel) rfl, mTb_of 1176 (by decide +kernel) rfl, mTb_of 65 (by decide +kernel) rfl, ok_X7_furthest⟩
theorem lk_X7_224 : mLV RX7 224 mm_X7_sight 0 := ⟨mTb_of 1170 (by decide +kernel) rfl, mTb_of 1172 (by decide +kernel) rfl, mTb_of 64 (by decide +kernel) rfl, ok_X7_sight⟩
theorem lk_X7_227 : mLV RX7 227 mm_X7_whomBy 2 := ⟨mTb_of 1182 (by decide +kernel) rfl, mTb_of 1184 (by decide +kernel) rfl, mTb_of 67 (by decide +kernel) rfl, ok_X7_whomBy⟩
theorem lk_X7_232 : mLS RX7 232 mm_X7_bits 1 := ⟨mTb_of 1199 (by decide +kernel) rfl, mTb_of 1200 (by decide +kernel) rfl, ok_X7_bits⟩
theorem lk_X7_236 : mLV RX7 236 mm_X7_farthestEver 0 := ⟨mTb_of 1202 (by decide +kernel) rfl, mTb_of 1204 (by decide +kernel) rfl, mTb_of 70 (by decide +kernel) rfl, ok_X7_farthestEver⟩
theorem lk_X7_239 : mLV RX7 239 mm_X7_fill 1 := ⟨mTb_of 1186 (by decide +kernel) rfl, mTb_of 1188 (by decide +kernel) rfl, mTb_of 68 (by decide +kernel) rfl, ok_X7_fill⟩
theorem lk_X7_242 : mLV RX7 242 mm_X7_fillWants 1 := ⟨mTb_of 1190 (by decide +kernel) rfl, mTb_of 1192 (by decide +kernel) rfl, mTb_of 69 (by decide +kernel) rfl, ok_X7_fillWants⟩
theorem lk_X7_245 : mLV RX7 245 mm_X7_reach 1 := ⟨mTb_of 1206 (by decide +kernel) rfl, mTb_of 1208 (by decide +kernel) rfl, mTb_of 71 (by decide +kernel) rfl, ok_X7_reach⟩
theorem lk_X7_250 : mLS RX7 250 mm_X7_gcd 2 := ⟨mTb_of 1227 (by decide +kernel) rfl, mTb_of 1228 (by decide +kernel) rfl, ok_X7_gcd⟩
theorem lk_X7_254 : mLS RX7 254 mm_X7_isSheet 1 := ⟨mTb_of 1238 (by decide +kernel) rfl, mTb_of 1239 (by decide +kernel) rfl, ok_X7_isSheet⟩
theorem lk_X7_257 : mLV RX7 257 mm_X7_pair 3 := ⟨mTb_of 1253 (by decide +kernel) rfl, mTb_of 1027 (by decide +kernel) rfl, mTb_of 1028 (by decide +kernel) rfl, ok_X7_pair⟩
theorem lk_X7_260 : mLV RX7 260 mm_X7_otherwise 2 := ⟨mTb_of 1262 (by decide +kernel) rfl, mTb_of 1264 (by decide +kernel) rfl, mTb_of 72 (by decide +kernel) rfl, ok_X7_otherwise⟩
theorem lk_X7_263 : mLV RX7 263 mm_X7_fits 2 := ⟨mTb_of 1270 (by decide +kernel) rfl, mTb_of 1272 (by decide +kernel) rfl, mTb_of 74 (by decide +kernel) rfl, ok_X7_fits⟩
theorem lk_X7_267 : mLV RX7 267 mm_X7_fitAngers 2 := ⟨mTb_of 1266 (by decide +kernel) rfl, mTb_of 1268 (by decide +kernel) rfl, mTb_of 73 (by decide +kernel) rfl, ok_X7_fitAngers⟩
theorem lk_X7_271 : mLV RX7 271 mm_X7_sheet 3 := ⟨mTb_of 1278 (by decide +kernel) rfl, mTb_of 1235 (by decide +kernel) rfl, mTb_of 1236 (by decide +kernel) rfl, ok_X7_sheet⟩
theorem lk_X7_275 : mLV RX7 275 mm_X7_farBehind 3 := ⟨mTb_of 1283 (by decide +kernel) rfl, mTb_of 1285 (by decide +kernel) rfl, mTb_of 75 (by decide +kernel) rfl, ok_X7_farBehind⟩
theorem lk_J0_335 : mLV RJ0 335 mm_J0_coder_7d493 0 := ⟨mTb_of 281 (by decide +kernel) rfl, mTb_of 282 (by decide +kernel) rfl, mTb_of 283 (by decide +kernel) rfl, ok_J0_coder_7d493⟩
theorem lk_J0_492 : mLV RJ0 492 mm_J0_isLatin1_aae02 0 := ⟨mTb_of 291 (by decide +kernel) rfl, mTb_of 292 (by decide +kernel) rfl, mTb_of 293 (by decide +kernel) rfl, ok_J0_isLatin1_aae02⟩
theorem lk_J0_495 : mLS RJ0 495 mm_J1_charAt_3b067 2 := ⟨mTb_of 295 (by decide +kernel) rfl, mTb_of 296 (by decide +kernel) rfl, ok_J1_charAt_3b067⟩
theorem lk_J0_498 : mLS RJ0 498 mm_J2_charAt_3b067 2 := ⟨mTb_of 306 (by decide +kernel) rfl, mTb_of 307 (by decide +kernel) rfl, ok_J2_charAt_3b067⟩
theorem lk_J0_505 : mLV RJ0 505 mm_J0_length_8abf5 0 := ⟨mTb_of 372 (by decide +kernel) rfl, mTb_of 278 (by decide +kernel) rfl, mTb_of 279 (by decide +kernel) rfl, ok_J0_length_8abf5⟩
theorem lk_J0_633 : mLV RJ0 633 mm_J0_indexOf_7cf53 2 := ⟨mTb_of 368 (by decide +kernel) rfl, mTb_of 369 (by decide +kernel) rfl, mTb_of 370 (by decide +kernel) rfl, ok_J0_indexOf_7cf53⟩
theorem lk_J0_637 : mLS RJ0 637 mm_J1_indexOf_4cfef 4 := ⟨mTb_of 373 (by decide +kernel) rfl, mTb_of 374 (by decide +kernel) rfl, ok_J1_indexOf_4cfef⟩
theorem lk_J0_640 : mLS RJ0 640 mm_J2_indexOf_4cfef 4 := ⟨mTb_of 388 (by decide +kernel) rfl, mTb_of 389 (by decide +kernel) rfl, ok_J2_indexOf_4cfef⟩
theorem lk_J0_1059 : mLS RJ0 1059 mm_J3_checkIndex_8e157 3 := ⟨mTb_of 303 (by decide +kernel) rfl, mTb_of 304 (by decide +kernel) rfl, ok_J3_checkIndex_8e157⟩
theorem lk_J0_1062 : mLS RJ0 1062 mm_J3_checkFromToIndex_8c36e 4 := ⟨mTb_of 403 (by decide +kernel) rfl, mTb_of 404 (by decide +kernel) rfl, ok_J3_checkFromToIndex_8c36e⟩
theorem lk_J1_9 : mLS RJ1 9 mm_J0_checkIndex_df160 2 := ⟨mTb_of 298 (by decide +kernel) rfl, mTb_of 299 (by decide +kernel) rfl, ok_J0_checkIndex_df160⟩
theorem lk_J1_38 : mLS RJ1 38 mm_J9_min_7cf53 2 := ⟨mTb_of 382 (by decide +kernel) rfl, mTb_of 383 (by decide +kernel) rfl, ok_J9_min_7cf53⟩
theorem lk_J1_88 : mLS RJ1 88 mm_J1_canEncode_9a6ad 1 := ⟨mTb_of 376 (by decide +kernel) rfl, mTb_of 377 (by decide +kernel) rfl, ok_J1_canEncode_9a6ad⟩
theorem lk_J1_92 : mLS RJ1 92 mm_J9_max_7cf53 2 := ⟨mTb_of 379 (by decide +kernel) rfl, mTb_of 380 (by decide +kernel) rfl, ok_J9_max_7cf53⟩
theorem lk_J1_95 : mLS RJ1 95 mm_J1_indexOfChar_4cfef 4 := ⟨mTb_of 385 (by decide +kernel) rfl, mTb_of 386 (by decide +kernel) rfl, ok_J1_indexOfChar_4cfef⟩
theorem lk_J2_48 : mLS RJ2 48 mm_J2_length_9d52b 1 := ⟨mTb_of 312 (by decide +kernel) rfl, mTb_of 313 (by decide +kernel) rfl, ok_J2_length_9d52b⟩
theorem lk_J2_67 : mLS RJ2 67 mm_J2_checkIndex_2214a 2 := ⟨mTb_of 309 (by decide +kernel) rfl, mTb_of 310 (by decide +kernel) rfl, ok_J2_checkIndex_2214a⟩
theorem lk_J2_71 : mLS RJ2 71 mm_J2_getChar_3b067 2 := ⟨mTb_of 316 (by decide +kernel) rfl, mTb_of 317 (by decide +kernel) rfl, ok_J2_getChar_3b067⟩
theorem lk_J2_96 : mLS RJ2 96 mm_J2_checkBoundsBeginEnd_d044e 3 := ⟨mTb_of 397 (by decide +kernel) rfl, mTb_of 398 (by decide +kernel) rfl, ok_J2_checkBoundsBeginEnd_d044e⟩
theorem lk_J2_157 : mLS RJ2 157 mm_J11_highSurrogate_5068e 1 := ⟨mTb_of 415 (by decide +kernel) rfl, mTb_of 416 (by decide +kernel) rfl, ok_J11_highSurrogate_5068e⟩
theorem lk_J2_161 : mLS RJ2 161 mm_J11_lowSurrogate_5068e 1 := ⟨mTb_of 419 (by decide +kernel) rfl, mTb_of 420 (by decide +kernel) rfl, ok_J11_lowSurrogate_5068e⟩
theorem lk_J2_164 : mLS RJ2 164 mm_J11_isValidCodePoint_9a6ad 1 := ⟨mTb_of 412 (by decide +kernel) rfl, mTb_of 413 (by decide +kernel) rfl, ok_J11_isValidCodePoint_9a6ad⟩
theorem lk_J2_183 : mLS RJ2 183 mm_J9_min_7cf53 2 := ⟨mTb_of 392 (by decide +kernel) rfl, mTb_of 383 (by decide +kernel) rfl, ok_J9_min_7cf53⟩
theorem lk_J2_224 : mLS RJ2 224 mm_J9_max_7cf53 2 := ⟨mTb_of 391 (by decide +kernel) rfl, mTb_of 380 (by decide +kernel) rfl, ok_J9_max_7cf53⟩
theorem lk_J2_228 : mLS RJ2 228 mm_J2_indexOfChar_4cfef 4 := ⟨mTb_of 394 (by decide +kernel) rfl, mTb_of 395 (by decide +kernel) rfl, ok_J2_indexOfChar_4cfef⟩
theorem lk_J2_232 : mLS RJ2 232 mm_J2_indexOfSupplementary_4cfef 4 := ⟨mTb_of 409 (by decide +kernel) rfl, mTb_of 410 (by decide +kernel) rfl, ok_J2_indexOfSupplementary_4cfef⟩
theorem lk_J2_241 : mLS RJ2 241 mm_J0_checkBoundsBeginEnd_23922 3 := ⟨mTb_of 400 (by decide +kernel) rfl, mTb_of 401 (by decide +kernel) rfl, ok_J0_checkBoundsBeginEnd_23922⟩
theorem lk_J2_244 : mLS RJ2 244 mm_J2_indexOfCharUnsafe_4cfef 4 := ⟨mTb_of 406 (by decide +kernel) rfl, mTb_of 407 (by decide +kernel) rfl, ok_J2_indexOfCharUnsafe_4cfef⟩
theorem lk_J2_414 : mLS RJ2 414 mm_J0_checkIndex_df160 2 := ⟨mTb_of 315 (by decide +kernel) rfl, mTb_of 299 (by decide +kernel) rfl, ok_J0_checkIndex_df160⟩
theorem lk_X1_23 : mLN RX1 23 mm_X6_within 2 := ⟨List.mem_of_getElem? (i := 0) rfl, mTb_of 330 (by decide +kernel) rfl, ok_X6_within⟩
theorem lk_X5_28 : mLN RX5 28 mm_X6_within 2 := ⟨List.mem_of_getElem? (i := 1) rfl, mTb_of 330 (by decide +kernel) rfl, ok_X6_within⟩
theorem lk_X2_43 : mLN RX2 43 mm_X6_within 2 := ⟨List.mem_of_getElem? (i := 2) rfl, mTb_of 330 (by decide +kernel) rfl, ok_X6_within⟩
theorem lk_X4_61 : mLN RX4 61 mm_X6_bounded 3 := ⟨List.mem_of_getElem? (i := 3) rfl, mTb_of 562 (by decide +kernel) rfl, ok_X6_bounded⟩
theorem lk_X0_64 : mLN RX0 64 mm_X6_within 2 := ⟨List.mem_of_getElem? (i := 4) rfl, mTb_of 330 (by decide +kernel) rfl, ok_X6_within⟩
theorem lk_X3_32 : mLN RX3 32 mm_X6_within 2 := ⟨List.mem_of_getElem? (i := 5) rfl, mTb_of 330 (by decide +kernel) rfl, ok_X6_within⟩
theorem lk_X3_19 : mLN RX3 19 mm_X6_bounded 3 := ⟨List.mem_of_getElem? (i := 6) rfl, mTb_of 562 (by decide +kernel) rfl, ok_X6_bounded⟩
theorem kc_X6_296 : Cond.constant RX6 296 (1103515245) ∈ mTb := mTb_of 842 (by decide +kernel) rfl
theorem kc_X7_274 : Cond.constant RX7 274 (1103515245) ∈ mTb := mTb_of 1287 (by decide +kernel) rfl
theorem kc_J11_76 : Cond.constant RJ11 76 (56320) ∈ mTb := mTb_of 422 (by decide +kernel) rfl
theorem kc_J11_110 : Cond.constant RJ11 110 (55232) ∈ mTb := mTb_of 418 (by decide +kernel) rfl
theorem kc_J2_227 : Cond.constant RJ2 227 (65536) ∈ mTb := mTb_of 393 (by decide +kernel) rfl
theorem kc_X6_194 : Cond.constantLong RX6 194 (-1) ∈ mTb := mTb_of 702 (by decide +kernel) rfl
theorem kc_X6_196 : Cond.constantLong RX6 196 (-4611686018427387904) ∈ mTb := mTb_of 703 (by decide +kernel) rfl
theorem kc_X6_236 : Cond.constantLong RX6 236 (6) ∈ mTb := mTb_of 742 (by decide +kernel) rfl
theorem kc_X7_230 : Cond.constantLong RX7 230 (-4611686018427387904) ∈ mTb := mTb_of 1198 (by decide +kernel) rfl
theorem kc_X7_248 : Cond.constantLong RX7 248 (6) ∈ mTb := mTb_of 1226 (by decide +kernel) rfl
theorem kc_J13_314 : Cond.constantLong RJ13 314 (6148914691236517205) ∈ mTb := mTb_of 542 (by decide +kernel) rfl
theorem kc_J13_316 : Cond.constantLong RJ13 316 (3689348814741910323) ∈ mTb := mTb_of 543 (by decide +kernel) rfl
theorem kc_J13_318 : Cond.constantLong RJ13 318 (1085102592571150095) ∈ mTb := mTb_of 544 (by decide +kernel) rfl
