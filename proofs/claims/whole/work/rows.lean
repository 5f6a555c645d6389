section
-- ===== PART A: goes FIRST, ahead of the names: the tables' words, and 'selects' of the private methods out of them =====
/-- a private method of a class that the tables say can be made, by its rows of tables_1 -/
def lw_okq (q : MethodName × Nat) : Prop := (q.1.cls ≠ "java/lang/invoke/MethodHandle" ∧ q.1.cls ≠ "java/lang/invoke/VarHandle") ∧ Cond.instantiable q.1.cls q.2 ∈ tables_1 ∧ Cond.privateMethod q.1 ∈ tables_1 ∧ Cond.instanceMethod q.1 ∈ tables_1
theorem lw_p0 : lw_okq (⟨"NoViewWithoutQuarrel$Reader", "advance", "()V"⟩, 8) := ⟨⟨by decide +kernel, by decide +kernel⟩, List.mem_of_getElem? (i := 95) (by decide +kernel), List.mem_of_getElem? (i := 265) (by decide +kernel), List.mem_of_getElem? (i := 266) (by decide +kernel)⟩
theorem lw_p1 : lw_okq (⟨"NoViewWithoutQuarrel$Reader", "readSpelled", "()V"⟩, 8) := ⟨⟨by decide +kernel, by decide +kernel⟩, List.mem_of_getElem? (i := 95) (by decide +kernel), List.mem_of_getElem? (i := 275) (by decide +kernel), List.mem_of_getElem? (i := 276) (by decide +kernel)⟩
theorem lw_p2 : lw_okq (⟨"NoViewWithoutQuarrel$Reader", "readNumber", "()V"⟩, 8) := ⟨⟨by decide +kernel, by decide +kernel⟩, List.mem_of_getElem? (i := 95) (by decide +kernel), List.mem_of_getElem? (i := 284) (by decide +kernel), List.mem_of_getElem? (i := 285) (by decide +kernel)⟩
theorem lw_p3 : lw_okq (⟨"NoViewWithoutQuarrel$Reader", "need", "(I)V"⟩, 8) := ⟨⟨by decide +kernel, by decide +kernel⟩, List.mem_of_getElem? (i := 95) (by decide +kernel), List.mem_of_getElem? (i := 348) (by decide +kernel), List.mem_of_getElem? (i := 349) (by decide +kernel)⟩
theorem lw_p4 : lw_okq (⟨"NoViewWithoutQuarrel$Reader", "refuse", "()V"⟩, 8) := ⟨⟨by decide +kernel, by decide +kernel⟩, List.mem_of_getElem? (i := 95) (by decide +kernel), List.mem_of_getElem? (i := 352) (by decide +kernel), List.mem_of_getElem? (i := 353) (by decide +kernel)⟩
theorem lw_p5 : lw_okq (⟨"NoViewWithoutQuarrel$Reader", "chain", "(II)V"⟩, 8) := ⟨⟨by decide +kernel, by decide +kernel⟩, List.mem_of_getElem? (i := 95) (by decide +kernel), List.mem_of_getElem? (i := 356) (by decide +kernel), List.mem_of_getElem? (i := 357) (by decide +kernel)⟩
theorem lw_p6 : lw_okq (⟨"NoViewWithoutQuarrel$Reader", "link", "(II)V"⟩, 8) := ⟨⟨by decide +kernel, by decide +kernel⟩, List.mem_of_getElem? (i := 95) (by decide +kernel), List.mem_of_getElem? (i := 360) (by decide +kernel), List.mem_of_getElem? (i := 361) (by decide +kernel)⟩
theorem lw_p7 : lw_okq (⟨"NoViewWithoutQuarrel$Reader", "one", "(I)V"⟩, 8) := ⟨⟨by decide +kernel, by decide +kernel⟩, List.mem_of_getElem? (i := 95) (by decide +kernel), List.mem_of_getElem? (i := 364) (by decide +kernel), List.mem_of_getElem? (i := 365) (by decide +kernel)⟩
theorem lw_p8 : lw_okq (⟨"NoViewWithoutQuarrel$Reader", "denial", "(I)V"⟩, 8) := ⟨⟨by decide +kernel, by decide +kernel⟩, List.mem_of_getElem? (i := 95) (by decide +kernel), List.mem_of_getElem? (i := 373) (by decide +kernel), List.mem_of_getElem? (i := 374) (by decide +kernel)⟩
theorem lw_p9 : lw_okq (⟨"NoViewWithoutQuarrel$Reader", "joins", "(I)Z"⟩, 8) := ⟨⟨by decide +kernel, by decide +kernel⟩, List.mem_of_getElem? (i := 95) (by decide +kernel), List.mem_of_getElem? (i := 380) (by decide +kernel), List.mem_of_getElem? (i := 381) (by decide +kernel)⟩
theorem lw_p10 : lw_okq (⟨"NoViewWithoutQuarrel", "turnHour", "(I)I"⟩, 8) := ⟨⟨by decide +kernel, by decide +kernel⟩, List.mem_of_getElem? (i := 19) (by decide +kernel), List.mem_of_getElem? (i := 423) (by decide +kernel), List.mem_of_getElem? (i := 424) (by decide +kernel)⟩
theorem lw_p11 : lw_okq (⟨"NoViewWithoutQuarrel", "felt", "(II)I"⟩, 8) := ⟨⟨by decide +kernel, by decide +kernel⟩, List.mem_of_getElem? (i := 19) (by decide +kernel), List.mem_of_getElem? (i := 446) (by decide +kernel), List.mem_of_getElem? (i := 447) (by decide +kernel)⟩
theorem lw_p12 : lw_okq (⟨"NoViewWithoutQuarrel$Temper", "coolsOfKind", "(II)I"⟩, 4) := ⟨⟨by decide +kernel, by decide +kernel⟩, List.mem_of_getElem? (i := 127) (by decide +kernel), List.mem_of_getElem? (i := 491) (by decide +kernel), List.mem_of_getElem? (i := 492) (by decide +kernel)⟩
theorem lw_p13 : lw_okq (⟨"NoViewWithoutQuarrel$Temper", "farOfKind", "(II)I"⟩, 4) := ⟨⟨by decide +kernel, by decide +kernel⟩, List.mem_of_getElem? (i := 127) (by decide +kernel), List.mem_of_getElem? (i := 499) (by decide +kernel), List.mem_of_getElem? (i := 500) (by decide +kernel)⟩
theorem lw_p14 : lw_okq (⟨"NoViewWithoutQuarrel$Temper", "heatsOfKind", "(III)I"⟩, 4) := ⟨⟨by decide +kernel, by decide +kernel⟩, List.mem_of_getElem? (i := 127) (by decide +kernel), List.mem_of_getElem? (i := 507) (by decide +kernel), List.mem_of_getElem? (i := 508) (by decide +kernel)⟩
theorem lw_p15 : lw_okq (⟨"NoViewWithoutQuarrel$Temper", "heatsOfWed", "(II)I"⟩, 4) := ⟨⟨by decide +kernel, by decide +kernel⟩, List.mem_of_getElem? (i := 127) (by decide +kernel), List.mem_of_getElem? (i := 511) (by decide +kernel), List.mem_of_getElem? (i := 512) (by decide +kernel)⟩
def lw_privs_1 : List (MethodName × Nat) := [(⟨"NoViewWithoutQuarrel$Reader", "advance", "()V"⟩, 8), (⟨"NoViewWithoutQuarrel$Reader", "readSpelled", "()V"⟩, 8), (⟨"NoViewWithoutQuarrel$Reader", "readNumber", "()V"⟩, 8), (⟨"NoViewWithoutQuarrel$Reader", "need", "(I)V"⟩, 8), (⟨"NoViewWithoutQuarrel$Reader", "refuse", "()V"⟩, 8), (⟨"NoViewWithoutQuarrel$Reader", "chain", "(II)V"⟩, 8), (⟨"NoViewWithoutQuarrel$Reader", "link", "(II)V"⟩, 8), (⟨"NoViewWithoutQuarrel$Reader", "one", "(I)V"⟩, 8), (⟨"NoViewWithoutQuarrel$Reader", "denial", "(I)V"⟩, 8), (⟨"NoViewWithoutQuarrel$Reader", "joins", "(I)Z"⟩, 8), (⟨"NoViewWithoutQuarrel", "turnHour", "(I)I"⟩, 8), (⟨"NoViewWithoutQuarrel", "felt", "(II)I"⟩, 8), (⟨"NoViewWithoutQuarrel$Temper", "coolsOfKind", "(II)I"⟩, 4), (⟨"NoViewWithoutQuarrel$Temper", "farOfKind", "(II)I"⟩, 4), (⟨"NoViewWithoutQuarrel$Temper", "heatsOfKind", "(III)I"⟩, 4), (⟨"NoViewWithoutQuarrel$Temper", "heatsOfWed", "(II)I"⟩, 4)]
theorem lw_r1 : ∀ q ∈ lw_privs_1, lw_okq q := List.forall_mem_cons.mpr ⟨lw_p0, List.forall_mem_cons.mpr ⟨lw_p1, List.forall_mem_cons.mpr ⟨lw_p2, List.forall_mem_cons.mpr ⟨lw_p3, List.forall_mem_cons.mpr ⟨lw_p4, List.forall_mem_cons.mpr ⟨lw_p5, List.forall_mem_cons.mpr ⟨lw_p6, List.forall_mem_cons.mpr ⟨lw_p7, List.forall_mem_cons.mpr ⟨lw_p8, List.forall_mem_cons.mpr ⟨lw_p9, List.forall_mem_cons.mpr ⟨lw_p10, List.forall_mem_cons.mpr ⟨lw_p11, List.forall_mem_cons.mpr ⟨lw_p12, List.forall_mem_cons.mpr ⟨lw_p13, List.forall_mem_cons.mpr ⟨lw_p14, List.forall_mem_cons.mpr ⟨lw_p15, fun _ h => absurd h List.not_mem_nil⟩⟩⟩⟩⟩⟩⟩⟩⟩⟩⟩⟩⟩⟩⟩⟩
theorem lw_p16 : lw_okq (⟨"NoViewWithoutQuarrel", "cooledFor", "(II)I"⟩, 8) := ⟨⟨by decide +kernel, by decide +kernel⟩, List.mem_of_getElem? (i := 19) (by decide +kernel), List.mem_of_getElem? (i := 546) (by decide +kernel), List.mem_of_getElem? (i := 547) (by decide +kernel)⟩
theorem lw_p17 : lw_okq (⟨"NoViewWithoutQuarrel", "furthest", "()I"⟩, 8) := ⟨⟨by decide +kernel, by decide +kernel⟩, List.mem_of_getElem? (i := 19) (by decide +kernel), List.mem_of_getElem? (i := 559) (by decide +kernel), List.mem_of_getElem? (i := 560) (by decide +kernel)⟩
theorem lw_p18 : lw_okq (⟨"NoViewWithoutQuarrel", "furthestPair", "()I"⟩, 8) := ⟨⟨by decide +kernel, by decide +kernel⟩, List.mem_of_getElem? (i := 19) (by decide +kernel), List.mem_of_getElem? (i := 563) (by decide +kernel), List.mem_of_getElem? (i := 564) (by decide +kernel)⟩
theorem lw_p19 : lw_okq (⟨"NoViewWithoutQuarrel", "farNow", "(I)I"⟩, 8) := ⟨⟨by decide +kernel, by decide +kernel⟩, List.mem_of_getElem? (i := 19) (by decide +kernel), List.mem_of_getElem? (i := 567) (by decide +kernel), List.mem_of_getElem? (i := 568) (by decide +kernel)⟩
theorem lw_p20 : lw_okq (⟨"NoViewWithoutQuarrel", "nearest", "(II)I"⟩, 8) := ⟨⟨by decide +kernel, by decide +kernel⟩, List.mem_of_getElem? (i := 19) (by decide +kernel), List.mem_of_getElem? (i := 586) (by decide +kernel), List.mem_of_getElem? (i := 587) (by decide +kernel)⟩
theorem lw_p21 : lw_okq (⟨"NoViewWithoutQuarrel$Reach", "meet", "(III)V"⟩, 8) := ⟨⟨by decide +kernel, by decide +kernel⟩, List.mem_of_getElem? (i := 148) (by decide +kernel), List.mem_of_getElem? (i := 599) (by decide +kernel), List.mem_of_getElem? (i := 600) (by decide +kernel)⟩
theorem lw_p22 : lw_okq (⟨"NoViewWithoutQuarrel", "furthestReached", "()I"⟩, 8) := ⟨⟨by decide +kernel, by decide +kernel⟩, List.mem_of_getElem? (i := 19) (by decide +kernel), List.mem_of_getElem? (i := 618) (by decide +kernel), List.mem_of_getElem? (i := 619) (by decide +kernel)⟩
theorem lw_p23 : lw_okq (⟨"NoViewWithoutQuarrel", "bestWord", "(I)I"⟩, 8) := ⟨⟨by decide +kernel, by decide +kernel⟩, List.mem_of_getElem? (i := 19) (by decide +kernel), List.mem_of_getElem? (i := 651) (by decide +kernel), List.mem_of_getElem? (i := 652) (by decide +kernel)⟩
theorem lw_p24 : lw_okq (⟨"NoViewWithoutQuarrel", "farBehind", "(II)I"⟩, 8) := ⟨⟨by decide +kernel, by decide +kernel⟩, List.mem_of_getElem? (i := 19) (by decide +kernel), List.mem_of_getElem? (i := 655) (by decide +kernel), List.mem_of_getElem? (i := 656) (by decide +kernel)⟩
theorem lw_p25 : lw_okq (⟨"NoViewWithoutQuarrel$Reach", "sayOneMore", "()V"⟩, 8) := ⟨⟨by decide +kernel, by decide +kernel⟩, List.mem_of_getElem? (i := 148) (by decide +kernel), List.mem_of_getElem? (i := 675) (by decide +kernel), List.mem_of_getElem? (i := 676) (by decide +kernel)⟩
theorem lw_p26 : lw_okq (⟨"NoViewWithoutQuarrel", "firstOtherwise", "(LNoViewWithoutQuarrel$Sheet;I)I"⟩, 8) := ⟨⟨by decide +kernel, by decide +kernel⟩, List.mem_of_getElem? (i := 19) (by decide +kernel), List.mem_of_getElem? (i := 700) (by decide +kernel), List.mem_of_getElem? (i := 701) (by decide +kernel)⟩
theorem lw_p27 : lw_okq (⟨"NoViewWithoutQuarrel", "fittingKinds", "(LNoViewWithoutQuarrel$Sheet;I)I"⟩, 8) := ⟨⟨by decide +kernel, by decide +kernel⟩, List.mem_of_getElem? (i := 19) (by decide +kernel), List.mem_of_getElem? (i := 709) (by decide +kernel), List.mem_of_getElem? (i := 710) (by decide +kernel)⟩
theorem lw_p28 : lw_okq (⟨"NoViewWithoutQuarrel", "fittingNumbers", "(LNoViewWithoutQuarrel$Sheet;I)I"⟩, 8) := ⟨⟨by decide +kernel, by decide +kernel⟩, List.mem_of_getElem? (i := 19) (by decide +kernel), List.mem_of_getElem? (i := 713) (by decide +kernel), List.mem_of_getElem? (i := 714) (by decide +kernel)⟩
theorem lw_p29 : lw_okq (⟨"NoViewWithoutQuarrel", "fittingAngers", "(LNoViewWithoutQuarrel$Sheet;)I"⟩, 8) := ⟨⟨by decide +kernel, by decide +kernel⟩, List.mem_of_getElem? (i := 19) (by decide +kernel), List.mem_of_getElem? (i := 721) (by decide +kernel), List.mem_of_getElem? (i := 722) (by decide +kernel)⟩
theorem lw_p30 : lw_okq (⟨"NoViewWithoutQuarrel", "leastFittingAnger", "(LNoViewWithoutQuarrel$Sheet;)I"⟩, 8) := ⟨⟨by decide +kernel, by decide +kernel⟩, List.mem_of_getElem? (i := 19) (by decide +kernel), List.mem_of_getElem? (i := 725) (by decide +kernel), List.mem_of_getElem? (i := 726) (by decide +kernel)⟩
theorem lw_p31 : lw_okq (⟨"NoViewWithoutQuarrel", "fittingTexts", "(LNoViewWithoutQuarrel$Sheet;I)I"⟩, 8) := ⟨⟨by decide +kernel, by decide +kernel⟩, List.mem_of_getElem? (i := 19) (by decide +kernel), List.mem_of_getElem? (i := 729) (by decide +kernel), List.mem_of_getElem? (i := 730) (by decide +kernel)⟩
def lw_privs_2 : List (MethodName × Nat) := [(⟨"NoViewWithoutQuarrel", "cooledFor", "(II)I"⟩, 8), (⟨"NoViewWithoutQuarrel", "furthest", "()I"⟩, 8), (⟨"NoViewWithoutQuarrel", "furthestPair", "()I"⟩, 8), (⟨"NoViewWithoutQuarrel", "farNow", "(I)I"⟩, 8), (⟨"NoViewWithoutQuarrel", "nearest", "(II)I"⟩, 8), (⟨"NoViewWithoutQuarrel$Reach", "meet", "(III)V"⟩, 8), (⟨"NoViewWithoutQuarrel", "furthestReached", "()I"⟩, 8), (⟨"NoViewWithoutQuarrel", "bestWord", "(I)I"⟩, 8), (⟨"NoViewWithoutQuarrel", "farBehind", "(II)I"⟩, 8), (⟨"NoViewWithoutQuarrel$Reach", "sayOneMore", "()V"⟩, 8), (⟨"NoViewWithoutQuarrel", "firstOtherwise", "(LNoViewWithoutQuarrel$Sheet;I)I"⟩, 8), (⟨"NoViewWithoutQuarrel", "fittingKinds", "(LNoViewWithoutQuarrel$Sheet;I)I"⟩, 8), (⟨"NoViewWithoutQuarrel", "fittingNumbers", "(LNoViewWithoutQuarrel$Sheet;I)I"⟩, 8), (⟨"NoViewWithoutQuarrel", "fittingAngers", "(LNoViewWithoutQuarrel$Sheet;)I"⟩, 8), (⟨"NoViewWithoutQuarrel", "leastFittingAnger", "(LNoViewWithoutQuarrel$Sheet;)I"⟩, 8), (⟨"NoViewWithoutQuarrel", "fittingTexts", "(LNoViewWithoutQuarrel$Sheet;I)I"⟩, 8)]
theorem lw_r2 : ∀ q ∈ lw_privs_2, lw_okq q := List.forall_mem_cons.mpr ⟨lw_p16, List.forall_mem_cons.mpr ⟨lw_p17, List.forall_mem_cons.mpr ⟨lw_p18, List.forall_mem_cons.mpr ⟨lw_p19, List.forall_mem_cons.mpr ⟨lw_p20, List.forall_mem_cons.mpr ⟨lw_p21, List.forall_mem_cons.mpr ⟨lw_p22, List.forall_mem_cons.mpr ⟨lw_p23, List.forall_mem_cons.mpr ⟨lw_p24, List.forall_mem_cons.mpr ⟨lw_p25, List.forall_mem_cons.mpr ⟨lw_p26, List.forall_mem_cons.mpr ⟨lw_p27, List.forall_mem_cons.mpr ⟨lw_p28, List.forall_mem_cons.mpr ⟨lw_p29, List.forall_mem_cons.mpr ⟨lw_p30, List.forall_mem_cons.mpr ⟨lw_p31, fun _ h => absurd h List.not_mem_nil⟩⟩⟩⟩⟩⟩⟩⟩⟩⟩⟩⟩⟩⟩⟩⟩
theorem lw_p32 : lw_okq (⟨"NoViewWithoutQuarrel", "fittingWords", "(LNoViewWithoutQuarrel$Sheet;I)I"⟩, 8) := ⟨⟨by decide +kernel, by decide +kernel⟩, List.mem_of_getElem? (i := 19) (by decide +kernel), List.mem_of_getElem? (i := 733) (by decide +kernel), List.mem_of_getElem? (i := 734) (by decide +kernel)⟩
theorem lw_p33 : lw_okq (⟨"NoViewWithoutQuarrel", "fittingPairs", "(LNoViewWithoutQuarrel$Sheet;)I"⟩, 8) := ⟨⟨by decide +kernel, by decide +kernel⟩, List.mem_of_getElem? (i := 19) (by decide +kernel), List.mem_of_getElem? (i := 737) (by decide +kernel), List.mem_of_getElem? (i := 738) (by decide +kernel)⟩
theorem lw_p34 : lw_okq (⟨"NoViewWithoutQuarrel$Sheet", "cut", "(I)I"⟩, 3) := ⟨⟨by decide +kernel, by decide +kernel⟩, List.mem_of_getElem? (i := 182) (by decide +kernel), List.mem_of_getElem? (i := 755) (by decide +kernel), List.mem_of_getElem? (i := 756) (by decide +kernel)⟩
theorem lw_p35 : lw_okq (⟨"NoViewWithoutQuarrel", "farDrawn", "(III)I"⟩, 8) := ⟨⟨by decide +kernel, by decide +kernel⟩, List.mem_of_getElem? (i := 19) (by decide +kernel), List.mem_of_getElem? (i := 763) (by decide +kernel), List.mem_of_getElem? (i := 764) (by decide +kernel)⟩
theorem lw_p36 : lw_okq (⟨"NoViewWithoutQuarrelModel", "firstText", "()I"⟩, 32) := ⟨⟨by decide +kernel, by decide +kernel⟩, List.mem_of_getElem? (i := 824) (by decide +kernel), List.mem_of_getElem? (i := 830) (by decide +kernel), List.mem_of_getElem? (i := 831) (by decide +kernel)⟩
theorem lw_p37 : lw_okq (⟨"NoViewWithoutQuarrelModel", "place", "(II)I"⟩, 32) := ⟨⟨by decide +kernel, by decide +kernel⟩, List.mem_of_getElem? (i := 824) (by decide +kernel), List.mem_of_getElem? (i := 943) (by decide +kernel), List.mem_of_getElem? (i := 944) (by decide +kernel)⟩
theorem lw_p38 : lw_okq (⟨"NoViewWithoutQuarrelModel", "isPair", "(I)Z"⟩, 32) := ⟨⟨by decide +kernel, by decide +kernel⟩, List.mem_of_getElem? (i := 824) (by decide +kernel), List.mem_of_getElem? (i := 947) (by decide +kernel), List.mem_of_getElem? (i := 948) (by decide +kernel)⟩
theorem lw_p39 : lw_okq (⟨"NoViewWithoutQuarrelModel", "many", "()I"⟩, 32) := ⟨⟨by decide +kernel, by decide +kernel⟩, List.mem_of_getElem? (i := 824) (by decide +kernel), List.mem_of_getElem? (i := 955) (by decide +kernel), List.mem_of_getElem? (i := 956) (by decide +kernel)⟩
theorem lw_p40 : lw_okq (⟨"NoViewWithoutQuarrelModel", "take", "(I)V"⟩, 32) := ⟨⟨by decide +kernel, by decide +kernel⟩, List.mem_of_getElem? (i := 824) (by decide +kernel), List.mem_of_getElem? (i := 963) (by decide +kernel), List.mem_of_getElem? (i := 964) (by decide +kernel)⟩
theorem lw_p41 : lw_okq (⟨"NoViewWithoutQuarrelModel", "kind", "(I)I"⟩, 32) := ⟨⟨by decide +kernel, by decide +kernel⟩, List.mem_of_getElem? (i := 824) (by decide +kernel), List.mem_of_getElem? (i := 967) (by decide +kernel), List.mem_of_getElem? (i := 968) (by decide +kernel)⟩
theorem lw_p42 : lw_okq (⟨"NoViewWithoutQuarrelModel", "number", "(I)I"⟩, 32) := ⟨⟨by decide +kernel, by decide +kernel⟩, List.mem_of_getElem? (i := 824) (by decide +kernel), List.mem_of_getElem? (i := 971) (by decide +kernel), List.mem_of_getElem? (i := 972) (by decide +kernel)⟩
theorem lw_p43 : lw_okq (⟨"NoViewWithoutQuarrelModel", "things", "()I"⟩, 32) := ⟨⟨by decide +kernel, by decide +kernel⟩, List.mem_of_getElem? (i := 824) (by decide +kernel), List.mem_of_getElem? (i := 975) (by decide +kernel), List.mem_of_getElem? (i := 976) (by decide +kernel)⟩
theorem lw_p44 : lw_okq (⟨"NoViewWithoutQuarrelModel", "anger", "(I)I"⟩, 32) := ⟨⟨by decide +kernel, by decide +kernel⟩, List.mem_of_getElem? (i := 824) (by decide +kernel), List.mem_of_getElem? (i := 979) (by decide +kernel), List.mem_of_getElem? (i := 980) (by decide +kernel)⟩
theorem lw_p45 : lw_okq (⟨"NoViewWithoutQuarrelModel", "cools", "(I)I"⟩, 32) := ⟨⟨by decide +kernel, by decide +kernel⟩, List.mem_of_getElem? (i := 824) (by decide +kernel), List.mem_of_getElem? (i := 983) (by decide +kernel), List.mem_of_getElem? (i := 984) (by decide +kernel)⟩
theorem lw_p46 : lw_okq (⟨"NoViewWithoutQuarrelModel", "tell", "(III)I"⟩, 32) := ⟨⟨by decide +kernel, by decide +kernel⟩, List.mem_of_getElem? (i := 824) (by decide +kernel), List.mem_of_getElem? (i := 987) (by decide +kernel), List.mem_of_getElem? (i := 988) (by decide +kernel)⟩
theorem lw_p47 : lw_okq (⟨"NoViewWithoutQuarrelModel", "far", "(I)I"⟩, 32) := ⟨⟨by decide +kernel, by decide +kernel⟩, List.mem_of_getElem? (i := 824) (by decide +kernel), List.mem_of_getElem? (i := 1000) (by decide +kernel), List.mem_of_getElem? (i := 1001) (by decide +kernel)⟩
def lw_privs_3 : List (MethodName × Nat) := [(⟨"NoViewWithoutQuarrel", "fittingWords", "(LNoViewWithoutQuarrel$Sheet;I)I"⟩, 8), (⟨"NoViewWithoutQuarrel", "fittingPairs", "(LNoViewWithoutQuarrel$Sheet;)I"⟩, 8), (⟨"NoViewWithoutQuarrel$Sheet", "cut", "(I)I"⟩, 3), (⟨"NoViewWithoutQuarrel", "farDrawn", "(III)I"⟩, 8), (⟨"NoViewWithoutQuarrelModel", "firstText", "()I"⟩, 32), (⟨"NoViewWithoutQuarrelModel", "place", "(II)I"⟩, 32), (⟨"NoViewWithoutQuarrelModel", "isPair", "(I)Z"⟩, 32), (⟨"NoViewWithoutQuarrelModel", "many", "()I"⟩, 32), (⟨"NoViewWithoutQuarrelModel", "take", "(I)V"⟩, 32), (⟨"NoViewWithoutQuarrelModel", "kind", "(I)I"⟩, 32), (⟨"NoViewWithoutQuarrelModel", "number", "(I)I"⟩, 32), (⟨"NoViewWithoutQuarrelModel", "things", "()I"⟩, 32), (⟨"NoViewWithoutQuarrelModel", "anger", "(I)I"⟩, 32), (⟨"NoViewWithoutQuarrelModel", "cools", "(I)I"⟩, 32), (⟨"NoViewWithoutQuarrelModel", "tell", "(III)I"⟩, 32), (⟨"NoViewWithoutQuarrelModel", "far", "(I)I"⟩, 32)]
theorem lw_r3 : ∀ q ∈ lw_privs_3, lw_okq q := List.forall_mem_cons.mpr ⟨lw_p32, List.forall_mem_cons.mpr ⟨lw_p33, List.forall_mem_cons.mpr ⟨lw_p34, List.forall_mem_cons.mpr ⟨lw_p35, List.forall_mem_cons.mpr ⟨lw_p36, List.forall_mem_cons.mpr ⟨lw_p37, List.forall_mem_cons.mpr ⟨lw_p38, List.forall_mem_cons.mpr ⟨lw_p39, List.forall_mem_cons.mpr ⟨lw_p40, List.forall_mem_cons.mpr ⟨lw_p41, List.forall_mem_cons.mpr ⟨lw_p42, List.forall_mem_cons.mpr ⟨lw_p43, List.forall_mem_cons.mpr ⟨lw_p44, List.forall_mem_cons.mpr ⟨lw_p45, List.forall_mem_cons.mpr ⟨lw_p46, List.forall_mem_cons.mpr ⟨lw_p47, fun _ h => absurd h List.not_mem_nil⟩⟩⟩⟩⟩⟩⟩⟩⟩⟩⟩⟩⟩⟩⟩⟩
theorem lw_p48 : lw_okq (⟨"NoViewWithoutQuarrelModel", "heats", "(II)I"⟩, 32) := ⟨⟨by decide +kernel, by decide +kernel⟩, List.mem_of_getElem? (i := 824) (by decide +kernel), List.mem_of_getElem? (i := 1004) (by decide +kernel), List.mem_of_getElem? (i := 1005) (by decide +kernel)⟩
theorem lw_p49 : lw_okq (⟨"NoViewWithoutQuarrelModel", "isText", "()Z"⟩, 32) := ⟨⟨by decide +kernel, by decide +kernel⟩, List.mem_of_getElem? (i := 824) (by decide +kernel), List.mem_of_getElem? (i := 1016) (by decide +kernel), List.mem_of_getElem? (i := 1017) (by decide +kernel)⟩
theorem lw_p50 : lw_okq (⟨"NoViewWithoutQuarrelModel", "next", "()V"⟩, 32) := ⟨⟨by decide +kernel, by decide +kernel⟩, List.mem_of_getElem? (i := 824) (by decide +kernel), List.mem_of_getElem? (i := 1020) (by decide +kernel), List.mem_of_getElem? (i := 1021) (by decide +kernel)⟩
theorem lw_p51 : lw_okq (⟨"NoViewWithoutQuarrelModel", "sortAt", "(I)I"⟩, 32) := ⟨⟨by decide +kernel, by decide +kernel⟩, List.mem_of_getElem? (i := 824) (by decide +kernel), List.mem_of_getElem? (i := 1024) (by decide +kernel), List.mem_of_getElem? (i := 1025) (by decide +kernel)⟩
theorem lw_p52 : lw_okq (⟨"NoViewWithoutQuarrelModel", "word", "()I"⟩, 32) := ⟨⟨by decide +kernel, by decide +kernel⟩, List.mem_of_getElem? (i := 824) (by decide +kernel), List.mem_of_getElem? (i := 1028) (by decide +kernel), List.mem_of_getElem? (i := 1029) (by decide +kernel)⟩
theorem lw_p53 : lw_okq (⟨"NoViewWithoutQuarrelModel", "isE", "()Z"⟩, 32) := ⟨⟨by decide +kernel, by decide +kernel⟩, List.mem_of_getElem? (i := 824) (by decide +kernel), List.mem_of_getElem? (i := 1032) (by decide +kernel), List.mem_of_getElem? (i := 1033) (by decide +kernel)⟩
theorem lw_p54 : lw_okq (⟨"NoViewWithoutQuarrelModel", "begin", "()I"⟩, 32) := ⟨⟨by decide +kernel, by decide +kernel⟩, List.mem_of_getElem? (i := 824) (by decide +kernel), List.mem_of_getElem? (i := 1036) (by decide +kernel), List.mem_of_getElem? (i := 1037) (by decide +kernel)⟩
theorem lw_p55 : lw_okq (⟨"NoViewWithoutQuarrelModel", "write", "(I)V"⟩, 32) := ⟨⟨by decide +kernel, by decide +kernel⟩, List.mem_of_getElem? (i := 824) (by decide +kernel), List.mem_of_getElem? (i := 1040) (by decide +kernel), List.mem_of_getElem? (i := 1041) (by decide +kernel)⟩
theorem lw_p56 : lw_okq (⟨"NoViewWithoutQuarrelModel", "numberThere", "()I"⟩, 32) := ⟨⟨by decide +kernel, by decide +kernel⟩, List.mem_of_getElem? (i := 824) (by decide +kernel), List.mem_of_getElem? (i := 1044) (by decide +kernel), List.mem_of_getElem? (i := 1045) (by decide +kernel)⟩
theorem lw_p57 : lw_okq (⟨"NoViewWithoutQuarrelModel", "isSign", "(I)Z"⟩, 32) := ⟨⟨by decide +kernel, by decide +kernel⟩, List.mem_of_getElem? (i := 824) (by decide +kernel), List.mem_of_getElem? (i := 1048) (by decide +kernel), List.mem_of_getElem? (i := 1049) (by decide +kernel)⟩
theorem lw_p58 : lw_okq (⟨"NoViewWithoutQuarrelModel", "last", "()I"⟩, 32) := ⟨⟨by decide +kernel, by decide +kernel⟩, List.mem_of_getElem? (i := 824) (by decide +kernel), List.mem_of_getElem? (i := 1052) (by decide +kernel), List.mem_of_getElem? (i := 1053) (by decide +kernel)⟩
theorem lw_p59 : lw_okq (⟨"NoViewWithoutQuarrelModel", "await", "(I)V"⟩, 32) := ⟨⟨by decide +kernel, by decide +kernel⟩, List.mem_of_getElem? (i := 824) (by decide +kernel), List.mem_of_getElem? (i := 1059) (by decide +kernel), List.mem_of_getElem? (i := 1060) (by decide +kernel)⟩
theorem lw_p60 : lw_okq (⟨"NoViewWithoutQuarrelModel", "settle", "(I)V"⟩, 32) := ⟨⟨by decide +kernel, by decide +kernel⟩, List.mem_of_getElem? (i := 824) (by decide +kernel), List.mem_of_getElem? (i := 1063) (by decide +kernel), List.mem_of_getElem? (i := 1064) (by decide +kernel)⟩
theorem lw_p61 : lw_okq (⟨"NoViewWithoutQuarrelModel", "between", "()I"⟩, 32) := ⟨⟨by decide +kernel, by decide +kernel⟩, List.mem_of_getElem? (i := 824) (by decide +kernel), List.mem_of_getElem? (i := 1067) (by decide +kernel), List.mem_of_getElem? (i := 1068) (by decide +kernel)⟩
theorem lw_p62 : lw_okq (⟨"NoViewWithoutQuarrelModel", "behindWord", "(II)I"⟩, 32) := ⟨⟨by decide +kernel, by decide +kernel⟩, List.mem_of_getElem? (i := 824) (by decide +kernel), List.mem_of_getElem? (i := 1079) (by decide +kernel), List.mem_of_getElem? (i := 1080) (by decide +kernel)⟩
theorem lw_p63 : lw_okq (⟨"NoViewWithoutQuarrelModel", "behindMinute", "(I)I"⟩, 32) := ⟨⟨by decide +kernel, by decide +kernel⟩, List.mem_of_getElem? (i := 824) (by decide +kernel), List.mem_of_getElem? (i := 1087) (by decide +kernel), List.mem_of_getElem? (i := 1088) (by decide +kernel)⟩
def lw_privs_4 : List (MethodName × Nat) := [(⟨"NoViewWithoutQuarrelModel", "heats", "(II)I"⟩, 32), (⟨"NoViewWithoutQuarrelModel", "isText", "()Z"⟩, 32), (⟨"NoViewWithoutQuarrelModel", "next", "()V"⟩, 32), (⟨"NoViewWithoutQuarrelModel", "sortAt", "(I)I"⟩, 32), (⟨"NoViewWithoutQuarrelModel", "word", "()I"⟩, 32), (⟨"NoViewWithoutQuarrelModel", "isE", "()Z"⟩, 32), (⟨"NoViewWithoutQuarrelModel", "begin", "()I"⟩, 32), (⟨"NoViewWithoutQuarrelModel", "write", "(I)V"⟩, 32), (⟨"NoViewWithoutQuarrelModel", "numberThere", "()I"⟩, 32), (⟨"NoViewWithoutQuarrelModel", "isSign", "(I)Z"⟩, 32), (⟨"NoViewWithoutQuarrelModel", "last", "()I"⟩, 32), (⟨"NoViewWithoutQuarrelModel", "await", "(I)V"⟩, 32), (⟨"NoViewWithoutQuarrelModel", "settle", "(I)V"⟩, 32), (⟨"NoViewWithoutQuarrelModel", "between", "()I"⟩, 32), (⟨"NoViewWithoutQuarrelModel", "behindWord", "(II)I"⟩, 32), (⟨"NoViewWithoutQuarrelModel", "behindMinute", "(I)I"⟩, 32)]
theorem lw_r4 : ∀ q ∈ lw_privs_4, lw_okq q := List.forall_mem_cons.mpr ⟨lw_p48, List.forall_mem_cons.mpr ⟨lw_p49, List.forall_mem_cons.mpr ⟨lw_p50, List.forall_mem_cons.mpr ⟨lw_p51, List.forall_mem_cons.mpr ⟨lw_p52, List.forall_mem_cons.mpr ⟨lw_p53, List.forall_mem_cons.mpr ⟨lw_p54, List.forall_mem_cons.mpr ⟨lw_p55, List.forall_mem_cons.mpr ⟨lw_p56, List.forall_mem_cons.mpr ⟨lw_p57, List.forall_mem_cons.mpr ⟨lw_p58, List.forall_mem_cons.mpr ⟨lw_p59, List.forall_mem_cons.mpr ⟨lw_p60, List.forall_mem_cons.mpr ⟨lw_p61, List.forall_mem_cons.mpr ⟨lw_p62, List.forall_mem_cons.mpr ⟨lw_p63, fun _ h => absurd h List.not_mem_nil⟩⟩⟩⟩⟩⟩⟩⟩⟩⟩⟩⟩⟩⟩⟩⟩
theorem lw_p64 : lw_okq (⟨"NoViewWithoutQuarrelModel", "sight", "()I"⟩, 32) := ⟨⟨by decide +kernel, by decide +kernel⟩, List.mem_of_getElem? (i := 824) (by decide +kernel), List.mem_of_getElem? (i := 1095) (by decide +kernel), List.mem_of_getElem? (i := 1096) (by decide +kernel)⟩
theorem lw_p65 : lw_okq (⟨"NoViewWithoutQuarrelModel", "furthest", "()I"⟩, 32) := ⟨⟨by decide +kernel, by decide +kernel⟩, List.mem_of_getElem? (i := 824) (by decide +kernel), List.mem_of_getElem? (i := 1099) (by decide +kernel), List.mem_of_getElem? (i := 1100) (by decide +kernel)⟩
theorem lw_p66 : lw_okq (⟨"NoViewWithoutQuarrelModel", "sees", "(I)I"⟩, 32) := ⟨⟨by decide +kernel, by decide +kernel⟩, List.mem_of_getElem? (i := 824) (by decide +kernel), List.mem_of_getElem? (i := 1103) (by decide +kernel), List.mem_of_getElem? (i := 1104) (by decide +kernel)⟩
theorem lw_p67 : lw_okq (⟨"NoViewWithoutQuarrelModel", "whomBy", "(II)I"⟩, 32) := ⟨⟨by decide +kernel, by decide +kernel⟩, List.mem_of_getElem? (i := 824) (by decide +kernel), List.mem_of_getElem? (i := 1107) (by decide +kernel), List.mem_of_getElem? (i := 1108) (by decide +kernel)⟩
theorem lw_p68 : lw_okq (⟨"NoViewWithoutQuarrelModel", "fill", "(I)V"⟩, 32) := ⟨⟨by decide +kernel, by decide +kernel⟩, List.mem_of_getElem? (i := 824) (by decide +kernel), List.mem_of_getElem? (i := 1111) (by decide +kernel), List.mem_of_getElem? (i := 1112) (by decide +kernel)⟩
theorem lw_p69 : lw_okq (⟨"NoViewWithoutQuarrelModel", "fillWants", "(I)V"⟩, 32) := ⟨⟨by decide +kernel, by decide +kernel⟩, List.mem_of_getElem? (i := 824) (by decide +kernel), List.mem_of_getElem? (i := 1115) (by decide +kernel), List.mem_of_getElem? (i := 1116) (by decide +kernel)⟩
theorem lw_p70 : lw_okq (⟨"NoViewWithoutQuarrelModel", "farthestEver", "()I"⟩, 32) := ⟨⟨by decide +kernel, by decide +kernel⟩, List.mem_of_getElem? (i := 824) (by decide +kernel), List.mem_of_getElem? (i := 1127) (by decide +kernel), List.mem_of_getElem? (i := 1128) (by decide +kernel)⟩
theorem lw_p71 : lw_okq (⟨"NoViewWithoutQuarrelModel", "reach", "(I)V"⟩, 32) := ⟨⟨by decide +kernel, by decide +kernel⟩, List.mem_of_getElem? (i := 824) (by decide +kernel), List.mem_of_getElem? (i := 1131) (by decide +kernel), List.mem_of_getElem? (i := 1132) (by decide +kernel)⟩
theorem lw_p72 : lw_okq (⟨"NoViewWithoutQuarrelModel", "otherwise", "(II)I"⟩, 32) := ⟨⟨by decide +kernel, by decide +kernel⟩, List.mem_of_getElem? (i := 824) (by decide +kernel), List.mem_of_getElem? (i := 1187) (by decide +kernel), List.mem_of_getElem? (i := 1188) (by decide +kernel)⟩
theorem lw_p73 : lw_okq (⟨"NoViewWithoutQuarrelModel", "fitAngers", "(IZ)I"⟩, 32) := ⟨⟨by decide +kernel, by decide +kernel⟩, List.mem_of_getElem? (i := 824) (by decide +kernel), List.mem_of_getElem? (i := 1191) (by decide +kernel), List.mem_of_getElem? (i := 1192) (by decide +kernel)⟩
theorem lw_p74 : lw_okq (⟨"NoViewWithoutQuarrelModel", "fits", "(II)Z"⟩, 32) := ⟨⟨by decide +kernel, by decide +kernel⟩, List.mem_of_getElem? (i := 824) (by decide +kernel), List.mem_of_getElem? (i := 1195) (by decide +kernel), List.mem_of_getElem? (i := 1196) (by decide +kernel)⟩
theorem lw_p75 : lw_okq (⟨"NoViewWithoutQuarrelModel", "farBehind", "(III)I"⟩, 32) := ⟨⟨by decide +kernel, by decide +kernel⟩, List.mem_of_getElem? (i := 824) (by decide +kernel), List.mem_of_getElem? (i := 1208) (by decide +kernel), List.mem_of_getElem? (i := 1209) (by decide +kernel)⟩
def lw_privs_5 : List (MethodName × Nat) := [(⟨"NoViewWithoutQuarrelModel", "sight", "()I"⟩, 32), (⟨"NoViewWithoutQuarrelModel", "furthest", "()I"⟩, 32), (⟨"NoViewWithoutQuarrelModel", "sees", "(I)I"⟩, 32), (⟨"NoViewWithoutQuarrelModel", "whomBy", "(II)I"⟩, 32), (⟨"NoViewWithoutQuarrelModel", "fill", "(I)V"⟩, 32), (⟨"NoViewWithoutQuarrelModel", "fillWants", "(I)V"⟩, 32), (⟨"NoViewWithoutQuarrelModel", "farthestEver", "()I"⟩, 32), (⟨"NoViewWithoutQuarrelModel", "reach", "(I)V"⟩, 32), (⟨"NoViewWithoutQuarrelModel", "otherwise", "(II)I"⟩, 32), (⟨"NoViewWithoutQuarrelModel", "fitAngers", "(IZ)I"⟩, 32), (⟨"NoViewWithoutQuarrelModel", "fits", "(II)Z"⟩, 32), (⟨"NoViewWithoutQuarrelModel", "farBehind", "(III)I"⟩, 32)]
theorem lw_r5 : ∀ q ∈ lw_privs_5, lw_okq q := List.forall_mem_cons.mpr ⟨lw_p64, List.forall_mem_cons.mpr ⟨lw_p65, List.forall_mem_cons.mpr ⟨lw_p66, List.forall_mem_cons.mpr ⟨lw_p67, List.forall_mem_cons.mpr ⟨lw_p68, List.forall_mem_cons.mpr ⟨lw_p69, List.forall_mem_cons.mpr ⟨lw_p70, List.forall_mem_cons.mpr ⟨lw_p71, List.forall_mem_cons.mpr ⟨lw_p72, List.forall_mem_cons.mpr ⟨lw_p73, List.forall_mem_cons.mpr ⟨lw_p74, List.forall_mem_cons.mpr ⟨lw_p75, fun _ h => absurd h List.not_mem_nil⟩⟩⟩⟩⟩⟩⟩⟩⟩⟩⟩⟩
def lw_privs : List (MethodName × Nat) := lw_privs_1 ++ (lw_privs_2 ++ (lw_privs_3 ++ (lw_privs_4 ++ (lw_privs_5))))
def lw_tbl : List Cond := k2_sels lw_privs ++ tables_1
theorem lw_privs_ok : ∀ q ∈ lw_privs, lw_okq q := by
  show ∀ q ∈ lw_privs_1 ++ (lw_privs_2 ++ (lw_privs_3 ++ (lw_privs_4 ++ (lw_privs_5)))), lw_okq q
  exact List.forall_mem_append.mpr ⟨lw_r1, List.forall_mem_append.mpr ⟨lw_r2, List.forall_mem_append.mpr ⟨lw_r3, List.forall_mem_append.mpr ⟨lw_r4, lw_r5⟩⟩⟩⟩
end
section
def RX0 : String := "NoViewWithoutQuarrel$Reach"
def TX0 : u_T := fun k => match k with
  | 0 => ("NoViewWithoutQuarrel$Reach", "order", "[I", true)
  | 1 => ("NoViewWithoutQuarrel$Reach", "depth", "[I", true)
  | 2 => ("NoViewWithoutQuarrel$Reach", "from", "[I", true)
  | 3 => ("NoViewWithoutQuarrel$Reach", "by", "[I", true)
  | 4 => ("NoViewWithoutQuarrel$Reach", "next", "[I", true)
  | 5 => ("NoViewWithoutQuarrel$Reach", "ways", "[J", true)
  | 6 => ("NoViewWithoutQuarrel$Reach", "later", "[J", true)
  | _ => ("NoViewWithoutQuarrel$Reach", "size", "I", false)
def tyX0 : Nat → FieldType := fun k => match k with
  | 0 => .array .int
  | 1 => .array .int
  | 2 => .array .int
  | 3 => .array .int
  | 4 => .array .int
  | 5 => .array .long
  | 6 => .array .long
  | _ => .int
abbrev wsX00 : List Cond := u_ws RX0 TX0 8
theorem nmX0 : ∀ a, a < 8 → ∀ b, b < 8 → a ≠ b → (TX0 a).2.1 ≠ (TX0 b).2.1 := by decide +kernel
theorem tyX0_ok : ∀ k, k < 8 → parseFieldDescriptor (TX0 k).2.2.1 = some (tyX0 k) := by decide +kernel
abbrev cX0_init : ByteArray := prog_2_method_1_code
def yX0_init : MethodName := ⟨RX0, "<init>", "()V"⟩
abbrev cX0_spread : ByteArray := prog_2_method_2_code
def yX0_spread : MethodName := ⟨RX0, "spread", "(LNoViewWithoutQuarrel$Temper;LNoViewWithoutQuarrel$Scene;I)V"⟩
abbrev cX0_meet : ByteArray := prog_2_method_3_code
def yX0_meet : MethodName := ⟨RX0, "meet", "(III)V"⟩
abbrev cX0_first : ByteArray := prog_2_method_4_code
def yX0_first : MethodName := ⟨RX0, "first", "(LNoViewWithoutQuarrel$Temper;I)I"⟩
abbrev cX0_wordsTo : ByteArray := prog_2_method_5_code
def yX0_wordsTo : MethodName := ⟨RX0, "wordsTo", "(I)I"⟩
abbrev cX0_rowTo : ByteArray := prog_2_method_6_code
def yX0_rowTo : MethodName := ⟨RX0, "rowTo", "(I)I"⟩
abbrev cX0_least : ByteArray := prog_2_method_7_code
def yX0_least : MethodName := ⟨RX0, "least", "()I"⟩
abbrev cX0_most : ByteArray := prog_2_method_8_code
def yX0_most : MethodName := ⟨RX0, "most", "()I"⟩
abbrev cX0_furthest : ByteArray := prog_2_method_9_code
def yX0_furthest : MethodName := ⟨RX0, "furthest", "(LNoViewWithoutQuarrel$Temper;)I"⟩
abbrev cX0_rowsTo : ByteArray := prog_2_method_10_code
def yX0_rowsTo : MethodName := ⟨RX0, "rowsTo", "(LNoViewWithoutQuarrel$Temper;II)J"⟩
abbrev cX0_sayOneMore : ByteArray := prog_2_method_11_code
def yX0_sayOneMore : MethodName := ⟨RX0, "sayOneMore", "()V"⟩
def RX1 : String := "NoViewWithoutQuarrel$Reader"
def TX1 : u_T := fun k => match k with
  | 0 => ("NoViewWithoutQuarrel$Reader", "texts", "LNoViewWithoutQuarrel$Texts;", true)
  | 1 => ("NoViewWithoutQuarrel$Reader", "tape", "[I", true)
  | 2 => ("NoViewWithoutQuarrel$Reader", "size", "I", false)
  | 3 => ("NoViewWithoutQuarrel$Reader", "place", "I", false)
  | 4 => ("NoViewWithoutQuarrel$Reader", "start", "I", false)
  | 5 => ("NoViewWithoutQuarrel$Reader", "token", "I", false)
  | 6 => ("NoViewWithoutQuarrel$Reader", "amount", "I", false)
  | _ => ("NoViewWithoutQuarrel$Reader", "fault", "I", false)
def tyX1 : Nat → FieldType := fun k => match k with
  | 0 => .object "NoViewWithoutQuarrel$Texts"
  | 1 => .array .int
  | 2 => .int
  | 3 => .int
  | 4 => .int
  | 5 => .int
  | 6 => .int
  | _ => .int
abbrev wsX10 : List Cond := u_ws RX1 TX1 8
theorem nmX1 : ∀ a, a < 8 → ∀ b, b < 8 → a ≠ b → (TX1 a).2.1 ≠ (TX1 b).2.1 := by decide +kernel
theorem tyX1_ok : ∀ k, k < 8 → parseFieldDescriptor (TX1 k).2.2.1 = some (tyX1 k) := by decide +kernel
abbrev cX1_init : ByteArray := prog_3_method_1_code
def yX1_init : MethodName := ⟨RX1, "<init>", "(LNoViewWithoutQuarrel$Texts;)V"⟩
abbrev cX1_put : ByteArray := prog_3_method_2_code
def yX1_put : MethodName := ⟨RX1, "put", "(I)Z"⟩
abbrev cX1_read : ByteArray := prog_3_method_3_code
def yX1_read : MethodName := ⟨RX1, "read", "()I"⟩
abbrev cX1_need : ByteArray := prog_3_method_4_code
def yX1_need : MethodName := ⟨RX1, "need", "(I)V"⟩
abbrev cX1_refuse : ByteArray := prog_3_method_5_code
def yX1_refuse : MethodName := ⟨RX1, "refuse", "()V"⟩
abbrev cX1_chain : ByteArray := prog_3_method_6_code
def yX1_chain : MethodName := ⟨RX1, "chain", "(II)V"⟩
abbrev cX1_link : ByteArray := prog_3_method_7_code
def yX1_link : MethodName := ⟨RX1, "link", "(II)V"⟩
abbrev cX1_denial : ByteArray := prog_3_method_8_code
def yX1_denial : MethodName := ⟨RX1, "denial", "(I)V"⟩
abbrev cX1_one : ByteArray := prog_3_method_9_code
def yX1_one : MethodName := ⟨RX1, "one", "(I)V"⟩
abbrev cX1_joins : ByteArray := prog_3_method_10_code
def yX1_joins : MethodName := ⟨RX1, "joins", "(I)Z"⟩
abbrev cX1_stepOf : ByteArray := prog_3_method_11_code
def yX1_stepOf : MethodName := ⟨RX1, "stepOf", "(I)I"⟩
abbrev cX1_advance : ByteArray := prog_3_method_12_code
def yX1_advance : MethodName := ⟨RX1, "advance", "()V"⟩
abbrev cX1_readSpelled : ByteArray := prog_3_method_13_code
def yX1_readSpelled : MethodName := ⟨RX1, "readSpelled", "()V"⟩
abbrev cX1_readNumber : ByteArray := prog_3_method_14_code
def yX1_readNumber : MethodName := ⟨RX1, "readNumber", "()V"⟩
abbrev cX1_isBlank : ByteArray := prog_3_method_15_code
def yX1_isBlank : MethodName := ⟨RX1, "isBlank", "(I)Z"⟩
abbrev cX1_isLetter : ByteArray := prog_3_method_16_code
def yX1_isLetter : MethodName := ⟨RX1, "isLetter", "(I)Z"⟩
abbrev cX1_isDigit : ByteArray := prog_3_method_17_code
def yX1_isDigit : MethodName := ⟨RX1, "isDigit", "(I)Z"⟩
def RX2 : String := "NoViewWithoutQuarrel$Scene"
def TX2 : u_T := fun k => match k with
  | 0 => ("NoViewWithoutQuarrel$Scene", "things", "[I", true)
  | 1 => ("NoViewWithoutQuarrel$Scene", "kinds", "[I", true)
  | 2 => ("NoViewWithoutQuarrel$Scene", "numbers", "[I", true)
  | 3 => ("NoViewWithoutQuarrel$Scene", "angers", "[I", true)
  | 4 => ("NoViewWithoutQuarrel$Scene", "tolds", "[I", true)
  | 5 => ("NoViewWithoutQuarrel$Scene", "size", "I", false)
  | 6 => ("NoViewWithoutQuarrel$Scene", "hour", "I", false)
  | _ => ("NoViewWithoutQuarrel$Scene", "rule", "I", false)
def tyX2 : Nat → FieldType := fun k => match k with
  | 0 => .array .int
  | 1 => .array .int
  | 2 => .array .int
  | 3 => .array .int
  | 4 => .array .int
  | 5 => .int
  | 6 => .int
  | _ => .int
abbrev wsX20 : List Cond := u_ws RX2 TX2 8
theorem nmX2 : ∀ a, a < 8 → ∀ b, b < 8 → a ≠ b → (TX2 a).2.1 ≠ (TX2 b).2.1 := by decide +kernel
theorem tyX2_ok : ∀ k, k < 8 → parseFieldDescriptor (TX2 k).2.2.1 = some (tyX2 k) := by decide +kernel
abbrev cX2_init : ByteArray := prog_4_method_1_code
def yX2_init : MethodName := ⟨RX2, "<init>", "()V"⟩
abbrev cX2_become : ByteArray := prog_4_method_2_code
def yX2_become : MethodName := ⟨RX2, "become", "(LNoViewWithoutQuarrel$Scene;)V"⟩
abbrev cX2_has : ByteArray := prog_4_method_3_code
def yX2_has : MethodName := ⟨RX2, "has", "(I)Z"⟩
abbrev cX2_seat : ByteArray := prog_4_method_4_code
def yX2_seat : MethodName := ⟨RX2, "seat", "(III)I"⟩
abbrev cX2_angerOf : ByteArray := prog_4_method_5_code
def yX2_angerOf : MethodName := ⟨RX2, "angerOf", "(I)I"⟩
abbrev cX2_hear : ByteArray := prog_4_method_6_code
def yX2_hear : MethodName := ⟨RX2, "hear", "(II)V"⟩
abbrev cX2_toldOfAll : ByteArray := prog_4_method_7_code
def yX2_toldOfAll : MethodName := ⟨RX2, "toldOfAll", "()I"⟩
abbrev cX2_milesWithThing : ByteArray := prog_4_method_8_code
def yX2_milesWithThing : MethodName := ⟨RX2, "milesWithThing", "()J"⟩
abbrev cX2_furthestMileWithThing : ByteArray := prog_4_method_9_code
def yX2_furthestMileWithThing : MethodName := ⟨RX2, "furthestMileWithThing", "(I)I"⟩
abbrev cX2_furthestThing : ByteArray := prog_4_method_10_code
def yX2_furthestThing : MethodName := ⟨RX2, "furthestThing", "(I)I"⟩
def RX3 : String := "NoViewWithoutQuarrel$Sheet"
def TX3 : u_T := fun k => match k with
  | 0 => ("NoViewWithoutQuarrel$Sheet", "cells", "[I", true)
  | 1 => ("NoViewWithoutQuarrel$Sheet", "sort", "I", false)
  | _ => ("NoViewWithoutQuarrel$Sheet", "size", "I", false)
def tyX3 : Nat → FieldType := fun k => match k with
  | 0 => .array .int
  | 1 => .int
  | _ => .int
abbrev wsX30 : List Cond := u_ws RX3 TX3 3
theorem nmX3 : ∀ a, a < 3 → ∀ b, b < 3 → a ≠ b → (TX3 a).2.1 ≠ (TX3 b).2.1 := by decide +kernel
theorem tyX3_ok : ∀ k, k < 3 → parseFieldDescriptor (TX3 k).2.2.1 = some (tyX3 k) := by decide +kernel
abbrev cX3_init : ByteArray := prog_5_method_1_code
def yX3_init : MethodName := ⟨RX3, "<init>", "()V"⟩
abbrev cX3_missing : ByteArray := prog_5_method_2_code
def yX3_missing : MethodName := ⟨RX3, "missing", "()Z"⟩
abbrev cX3_become : ByteArray := prog_5_method_3_code
def yX3_become : MethodName := ⟨RX3, "become", "(II)V"⟩
abbrev cX3_holds : ByteArray := prog_5_method_4_code
def yX3_holds : MethodName := ⟨RX3, "holds", "(II)Z"⟩
abbrev cX3_at : ByteArray := prog_5_method_5_code
def yX3_at : MethodName := ⟨RX3, "at", "(I)I"⟩
abbrev cX3_put : ByteArray := prog_5_method_6_code
def yX3_put : MethodName := ⟨RX3, "put", "(II)Z"⟩
abbrev cX3_cut : ByteArray := prog_5_method_7_code
def yX3_cut : MethodName := ⟨RX3, "cut", "(I)I"⟩
def RX4 : String := "NoViewWithoutQuarrel$Temper"
def TX4 : u_T := fun k => match k with
  | 0 => ("NoViewWithoutQuarrel$Temper", "texts", "LNoViewWithoutQuarrel$Texts;", true)
  | 1 => ("NoViewWithoutQuarrel$Temper", "names", "[I", true)
  | 2 => ("NoViewWithoutQuarrel$Temper", "rule", "I", false)
  | _ => ("NoViewWithoutQuarrel$Temper", "kind", "I", false)
def tyX4 : Nat → FieldType := fun k => match k with
  | 0 => .object "NoViewWithoutQuarrel$Texts"
  | 1 => .array .int
  | 2 => .int
  | _ => .int
abbrev wsX40 : List Cond := u_ws RX4 TX4 4
theorem nmX4 : ∀ a, a < 4 → ∀ b, b < 4 → a ≠ b → (TX4 a).2.1 ≠ (TX4 b).2.1 := by decide +kernel
theorem tyX4_ok : ∀ k, k < 4 → parseFieldDescriptor (TX4 k).2.2.1 = some (tyX4 k) := by decide +kernel
abbrev cX4_init : ByteArray := prog_6_method_1_code
def yX4_init : MethodName := ⟨RX4, "<init>", "(LNoViewWithoutQuarrel$Texts;)V"⟩
abbrev cX4_of : ByteArray := prog_6_method_2_code
def yX4_of : MethodName := ⟨RX4, "of", "(LNoViewWithoutQuarrel$Scene;I)V"⟩
abbrev cX4_renumber : ByteArray := prog_6_method_3_code
def yX4_renumber : MethodName := ⟨RX4, "renumber", "(I)V"⟩
abbrev cX4_heats : ByteArray := prog_6_method_4_code
def yX4_heats : MethodName := ⟨RX4, "heats", "(II)I"⟩
abbrev cX4_cools : ByteArray := prog_6_method_5_code
def yX4_cools : MethodName := ⟨RX4, "cools", "(I)I"⟩
abbrev cX4_far : ByteArray := prog_6_method_6_code
def yX4_far : MethodName := ⟨RX4, "far", "(I)I"⟩
abbrev cX4_heated : ByteArray := prog_6_method_7_code
def yX4_heated : MethodName := ⟨RX4, "heated", "(II)I"⟩
abbrev cX4_cooled : ByteArray := prog_6_method_8_code
def yX4_cooled : MethodName := ⟨RX4, "cooled", "(I)I"⟩
abbrev cX4_heatsOfKind : ByteArray := prog_6_method_9_code
def yX4_heatsOfKind : MethodName := ⟨RX4, "heatsOfKind", "(III)I"⟩
abbrev cX4_heatsOfWed : ByteArray := prog_6_method_10_code
def yX4_heatsOfWed : MethodName := ⟨RX4, "heatsOfWed", "(II)I"⟩
abbrev cX4_coolsOfKind : ByteArray := prog_6_method_11_code
def yX4_coolsOfKind : MethodName := ⟨RX4, "coolsOfKind", "(II)I"⟩
abbrev cX4_farOfKind : ByteArray := prog_6_method_12_code
def yX4_farOfKind : MethodName := ⟨RX4, "farOfKind", "(II)I"⟩
def RX5 : String := "NoViewWithoutQuarrel$Texts"
def TX5 : u_T := fun k => match k with
  | 0 => ("NoViewWithoutQuarrel$Texts", "steps", "[I", true)
  | 1 => ("NoViewWithoutQuarrel$Texts", "ends", "[I", true)
  | 2 => ("NoViewWithoutQuarrel$Texts", "stack", "[I", true)
  | 3 => ("NoViewWithoutQuarrel$Texts", "written", "I", false)
  | _ => ("NoViewWithoutQuarrel$Texts", "size", "I", false)
def tyX5 : Nat → FieldType := fun k => match k with
  | 0 => .array .int
  | 1 => .array .int
  | 2 => .array .int
  | 3 => .int
  | _ => .int
abbrev wsX50 : List Cond := u_ws RX5 TX5 5
theorem nmX5 : ∀ a, a < 5 → ∀ b, b < 5 → a ≠ b → (TX5 a).2.1 ≠ (TX5 b).2.1 := by decide +kernel
theorem tyX5_ok : ∀ k, k < 5 → parseFieldDescriptor (TX5 k).2.2.1 = some (tyX5 k) := by decide +kernel
abbrev cX5_init : ByteArray := prog_7_method_1_code
def yX5_init : MethodName := ⟨RX5, "<init>", "()V"⟩
abbrev cX5_begin : ByteArray := prog_7_method_2_code
def yX5_begin : MethodName := ⟨RX5, "begin", "()V"⟩
abbrev cX5_add : ByteArray := prog_7_method_3_code
def yX5_add : MethodName := ⟨RX5, "add", "(I)V"⟩
abbrev cX5_endPart : ByteArray := prog_7_method_4_code
def yX5_endPart : MethodName := ⟨RX5, "endPart", "(I)V"⟩
abbrev cX5_keep : ByteArray := prog_7_method_5_code
def yX5_keep : MethodName := ⟨RX5, "keep", "()I"⟩
abbrev cX5_worth : ByteArray := prog_7_method_6_code
def yX5_worth : MethodName := ⟨RX5, "worth", "(II[I)I"⟩
abbrev cX5_joined : ByteArray := prog_7_method_7_code
def yX5_joined : MethodName := ⟨RX5, "joined", "(III)I"⟩
def RX6 : String := "NoViewWithoutQuarrel"
def TX6 : u_T := fun k => match k with
  | 0 => ("NoViewWithoutQuarrel", "now", "LNoViewWithoutQuarrel$Scene;", true)
  | 1 => ("NoViewWithoutQuarrel", "kept", "LNoViewWithoutQuarrel$Scene;", true)
  | 2 => ("NoViewWithoutQuarrel", "hasImage", "Z", false)
  | 3 => ("NoViewWithoutQuarrel", "texts", "LNoViewWithoutQuarrel$Texts;", true)
  | 4 => ("NoViewWithoutQuarrel", "reader", "LNoViewWithoutQuarrel$Reader;", true)
  | 5 => ("NoViewWithoutQuarrel", "temper", "LNoViewWithoutQuarrel$Temper;", true)
  | 6 => ("NoViewWithoutQuarrel", "reach", "LNoViewWithoutQuarrel$Reach;", true)
  | _ => ("NoViewWithoutQuarrel", "sheets", "[LNoViewWithoutQuarrel$Sheet;", true)
def tyX6 : Nat → FieldType := fun k => match k with
  | 0 => .object "NoViewWithoutQuarrel$Scene"
  | 1 => .object "NoViewWithoutQuarrel$Scene"
  | 2 => .boolean
  | 3 => .object "NoViewWithoutQuarrel$Texts"
  | 4 => .object "NoViewWithoutQuarrel$Reader"
  | 5 => .object "NoViewWithoutQuarrel$Temper"
  | 6 => .object "NoViewWithoutQuarrel$Reach"
  | _ => .array (.object "NoViewWithoutQuarrel$Sheet")
abbrev wsX60 : List Cond := u_ws RX6 TX6 8
theorem nmX6 : ∀ a, a < 8 → ∀ b, b < 8 → a ≠ b → (TX6 a).2.1 ≠ (TX6 b).2.1 := by decide +kernel
theorem tyX6_ok : ∀ k, k < 8 → parseFieldDescriptor (TX6 k).2.2.1 = some (tyX6 k) := by decide +kernel
abbrev cX6_init : ByteArray := prog_1_method_1_code
def yX6_init : MethodName := ⟨RX6, "<init>", "()V"⟩
abbrev cX6_set : ByteArray := prog_1_method_2_code
def yX6_set : MethodName := ⟨RX6, "set", "(III)I"⟩
abbrev cX6_turnHour : ByteArray := prog_1_method_3_code
def yX6_turnHour : MethodName := ⟨RX6, "turnHour", "(I)I"⟩
abbrev cX6_change : ByteArray := prog_1_method_4_code
def yX6_change : MethodName := ⟨RX6, "change", "([IIIII)I"⟩
abbrev cX6_pair : ByteArray := prog_1_method_5_code
def yX6_pair : MethodName := ⟨RX6, "pair", "(III)I"⟩
abbrev cX6_told : ByteArray := prog_1_method_6_code
def yX6_told : MethodName := ⟨RX6, "told", "(II)I"⟩
abbrev cX6_item : ByteArray := prog_1_method_7_code
def yX6_item : MethodName := ⟨RX6, "item", "([III)I"⟩
abbrev cX6_felt : ByteArray := prog_1_method_8_code
def yX6_felt : MethodName := ⟨RX6, "felt", "(II)I"⟩
abbrev cX6_feed : ByteArray := prog_1_method_9_code
def yX6_feed : MethodName := ⟨RX6, "feed", "(I)I"⟩
abbrev cX6_text : ByteArray := prog_1_method_10_code
def yX6_text : MethodName := ⟨RX6, "text", "()I"⟩
abbrev cX6_force : ByteArray := prog_1_method_11_code
def yX6_force : MethodName := ⟨RX6, "force", "(I)I"⟩
abbrev cX6_say : ByteArray := prog_1_method_12_code
def yX6_say : MethodName := ⟨RX6, "say", "(II)I"⟩
abbrev cX6_quiet : ByteArray := prog_1_method_13_code
def yX6_quiet : MethodName := ⟨RX6, "quiet", "(I)I"⟩
abbrev cX6_cooledFor : ByteArray := prog_1_method_14_code
def yX6_cooledFor : MethodName := ⟨RX6, "cooledFor", "(II)I"⟩
abbrev cX6_view : ByteArray := prog_1_method_15_code
def yX6_view : MethodName := ⟨RX6, "view", "(I)I"⟩
abbrev cX6_clear : ByteArray := prog_1_method_16_code
def yX6_clear : MethodName := ⟨RX6, "clear", "(I)J"⟩
abbrev cX6_farNow : ByteArray := prog_1_method_17_code
def yX6_farNow : MethodName := ⟨RX6, "farNow", "(I)I"⟩
abbrev cX6_furthest : ByteArray := prog_1_method_18_code
def yX6_furthest : MethodName := ⟨RX6, "furthest", "()I"⟩
abbrev cX6_furthestPair : ByteArray := prog_1_method_19_code
def yX6_furthestPair : MethodName := ⟨RX6, "furthestPair", "()I"⟩
abbrev cX6_furthestReached : ByteArray := prog_1_method_20_code
def yX6_furthestReached : MethodName := ⟨RX6, "furthestReached", "()I"⟩
abbrev cX6_fewest : ByteArray := prog_1_method_21_code
def yX6_fewest : MethodName := ⟨RX6, "fewest", "(III)I"⟩
abbrev cX6_words : ByteArray := prog_1_method_22_code
def yX6_words : MethodName := ⟨RX6, "words", "(II)I"⟩
abbrev cX6_farBehind : ByteArray := prog_1_method_23_code
def yX6_farBehind : MethodName := ⟨RX6, "farBehind", "(II)I"⟩
abbrev cX6_bestWord : ByteArray := prog_1_method_24_code
def yX6_bestWord : MethodName := ⟨RX6, "bestWord", "(I)I"⟩
abbrev cX6_stays : ByteArray := prog_1_method_25_code
def yX6_stays : MethodName := ⟨RX6, "stays", "(II)I"⟩
abbrev cX6_rows : ByteArray := prog_1_method_26_code
def yX6_rows : MethodName := ⟨RX6, "rows", "(IIII)J"⟩
abbrev cX6_whom : ByteArray := prog_1_method_27_code
def yX6_whom : MethodName := ⟨RX6, "whom", "(II)I"⟩
abbrev cX6_nearest : ByteArray := prog_1_method_28_code
def yX6_nearest : MethodName := ⟨RX6, "nearest", "(II)I"⟩
abbrev cX6_tells : ByteArray := prog_1_method_29_code
def yX6_tells : MethodName := ⟨RX6, "tells", "(III)I"⟩
abbrev cX6_firstOtherwise : ByteArray := prog_1_method_30_code
def yX6_firstOtherwise : MethodName := ⟨RX6, "firstOtherwise", "(LNoViewWithoutQuarrel$Sheet;I)I"⟩
abbrev cX6_fittingKinds : ByteArray := prog_1_method_31_code
def yX6_fittingKinds : MethodName := ⟨RX6, "fittingKinds", "(LNoViewWithoutQuarrel$Sheet;I)I"⟩
abbrev cX6_fittingNumbers : ByteArray := prog_1_method_32_code
def yX6_fittingNumbers : MethodName := ⟨RX6, "fittingNumbers", "(LNoViewWithoutQuarrel$Sheet;I)I"⟩
abbrev cX6_fittingAngers : ByteArray := prog_1_method_33_code
def yX6_fittingAngers : MethodName := ⟨RX6, "fittingAngers", "(LNoViewWithoutQuarrel$Sheet;)I"⟩
abbrev cX6_leastFittingAnger : ByteArray := prog_1_method_34_code
def yX6_leastFittingAnger : MethodName := ⟨RX6, "leastFittingAnger", "(LNoViewWithoutQuarrel$Sheet;)I"⟩
abbrev cX6_fittingTexts : ByteArray := prog_1_method_35_code
def yX6_fittingTexts : MethodName := ⟨RX6, "fittingTexts", "(LNoViewWithoutQuarrel$Sheet;I)I"⟩
abbrev cX6_fittingWords : ByteArray := prog_1_method_36_code
def yX6_fittingWords : MethodName := ⟨RX6, "fittingWords", "(LNoViewWithoutQuarrel$Sheet;I)I"⟩
abbrev cX6_fittingPairs : ByteArray := prog_1_method_37_code
def yX6_fittingPairs : MethodName := ⟨RX6, "fittingPairs", "(LNoViewWithoutQuarrel$Sheet;)I"⟩
abbrev cX6_film : ByteArray := prog_1_method_38_code
def yX6_film : MethodName := ⟨RX6, "film", "(III)I"⟩
abbrev cX6_drawn : ByteArray := prog_1_method_39_code
def yX6_drawn : MethodName := ⟨RX6, "drawn", "(III)I"⟩
abbrev cX6_farDrawn : ByteArray := prog_1_method_40_code
def yX6_farDrawn : MethodName := ⟨RX6, "farDrawn", "(III)I"⟩
abbrev cX6_chance : ByteArray := prog_1_method_41_code
def yX6_chance : MethodName := ⟨RX6, "chance", "(IIIII)J"⟩
abbrev cX6_image : ByteArray := prog_1_method_42_code
def yX6_image : MethodName := ⟨RX6, "image", "()I"⟩
abbrev cX6_back : ByteArray := prog_1_method_43_code
def yX6_back : MethodName := ⟨RX6, "back", "()I"⟩
abbrev cX6_count : ByteArray := prog_1_method_44_code
def yX6_count : MethodName := ⟨RX6, "count", "(I)I"⟩
abbrev cX6_sheet : ByteArray := prog_1_method_45_code
def yX6_sheet : MethodName := ⟨RX6, "sheet", "(III)I"⟩
abbrev cX6_cell : ByteArray := prog_1_method_46_code
def yX6_cell : MethodName := ⟨RX6, "cell", "(III)I"⟩
abbrev cX6_copy : ByteArray := prog_1_method_47_code
def yX6_copy : MethodName := ⟨RX6, "copy", "(IIIII)I"⟩
abbrev cX6_pairs : ByteArray := prog_1_method_48_code
def yX6_pairs : MethodName := ⟨RX6, "pairs", "(IIII)I"⟩
abbrev cX6_taken : ByteArray := prog_1_method_49_code
def yX6_taken : MethodName := ⟨RX6, "taken", "(II)I"⟩
abbrev cX6_isUnder : ByteArray := prog_1_method_50_code
def yX6_isUnder : MethodName := ⟨RX6, "isUnder", "(II)Z"⟩
abbrev cX6_within : ByteArray := prog_1_method_51_code
def yX6_within : MethodName := ⟨RX6, "within", "(II)Z"⟩
abbrev cX6_bounded : ByteArray := prog_1_method_52_code
def yX6_bounded : MethodName := ⟨RX6, "bounded", "(III)I"⟩
abbrev cX6_milesBelow : ByteArray := prog_1_method_53_code
def yX6_milesBelow : MethodName := ⟨RX6, "milesBelow", "(I)J"⟩
abbrev cX6_lowest : ByteArray := prog_1_method_54_code
def yX6_lowest : MethodName := ⟨RX6, "lowest", "(JJI)J"⟩
abbrev cX6_commonDivisor : ByteArray := prog_1_method_55_code
def yX6_commonDivisor : MethodName := ⟨RX6, "commonDivisor", "(JJ)J"⟩
def RX7 : String := "NoViewWithoutQuarrelModel"
def TX7 : u_T := fun k => match k with
  | 0 => ("NoViewWithoutQuarrelModel", "now", "[I", true)
  | 1 => ("NoViewWithoutQuarrelModel", "kept", "[I", true)
  | 2 => ("NoViewWithoutQuarrelModel", "isKept", "Z", false)
  | 3 => ("NoViewWithoutQuarrelModel", "tape", "[I", true)
  | 4 => ("NoViewWithoutQuarrelModel", "size", "I", false)
  | 5 => ("NoViewWithoutQuarrelModel", "at", "I", false)
  | 6 => ("NoViewWithoutQuarrelModel", "from", "I", false)
  | 7 => ("NoViewWithoutQuarrelModel", "sort", "I", false)
  | 8 => ("NoViewWithoutQuarrelModel", "open", "I", false)
  | 9 => ("NoViewWithoutQuarrelModel", "code", "[I", true)
  | 10 => ("NoViewWithoutQuarrelModel", "ends", "[I", true)
  | 11 => ("NoViewWithoutQuarrelModel", "texts", "I", false)
  | 12 => ("NoViewWithoutQuarrelModel", "wrote", "I", false)
  | 13 => ("NoViewWithoutQuarrelModel", "names", "[C", true)
  | 14 => ("NoViewWithoutQuarrelModel", "waiting", "[I", true)
  | 15 => ("NoViewWithoutQuarrelModel", "waits", "I", false)
  | 16 => ("NoViewWithoutQuarrelModel", "row", "[I", true)
  | 17 => ("NoViewWithoutQuarrelModel", "itsKind", "I", false)
  | 18 => ("NoViewWithoutQuarrelModel", "itsNumber", "I", false)
  | 19 => ("NoViewWithoutQuarrelModel", "rule", "I", false)
  | 20 => ("NoViewWithoutQuarrelModel", "land", "I", false)
  | 21 => ("NoViewWithoutQuarrelModel", "leads", "[I", true)
  | 22 => ("NoViewWithoutQuarrelModel", "fars", "[I", true)
  | 23 => ("NoViewWithoutQuarrelModel", "wants", "[I", true)
  | 24 => ("NoViewWithoutQuarrelModel", "been", "[Z", true)
  | 25 => ("NoViewWithoutQuarrelModel", "ways", "[J", true)
  | 26 => ("NoViewWithoutQuarrelModel", "then", "[J", true)
  | 27 => ("NoViewWithoutQuarrelModel", "sorts", "[I", true)
  | 28 => ("NoViewWithoutQuarrelModel", "sizes", "[I", true)
  | 29 => ("NoViewWithoutQuarrelModel", "cells", "[I", true)
  | 30 => ("NoViewWithoutQuarrelModel", "moved", "[I", true)
  | _ => ("NoViewWithoutQuarrelModel", "above", "[I", true)
def tyX7 : Nat → FieldType := fun k => match k with
  | 0 => .array .int
  | 1 => .array .int
  | 2 => .boolean
  | 3 => .array .int
  | 4 => .int
  | 5 => .int
  | 6 => .int
  | 7 => .int
  | 8 => .int
  | 9 => .array .int
  | 10 => .array .int
  | 11 => .int
  | 12 => .int
  | 13 => .array .char
  | 14 => .array .int
  | 15 => .int
  | 16 => .array .int
  | 17 => .int
  | 18 => .int
  | 19 => .int
  | 20 => .int
  | 21 => .array .int
  | 22 => .array .int
  | 23 => .array .int
  | 24 => .array .boolean
  | 25 => .array .long
  | 26 => .array .long
  | 27 => .array .int
  | 28 => .array .int
  | 29 => .array .int
  | 30 => .array .int
  | _ => .array .int
abbrev wsX70 : List Cond := u_ws RX7 TX7 32
theorem nmX7 : ∀ a, a < 32 → ∀ b, b < 32 → a ≠ b → (TX7 a).2.1 ≠ (TX7 b).2.1 := by decide +kernel
theorem tyX7_ok : ∀ k, k < 32 → parseFieldDescriptor (TX7 k).2.2.1 = some (tyX7 k) := by decide +kernel
abbrev cX7_init : ByteArray := prog_9_method_1_code
def yX7_init : MethodName := ⟨RX7, "<init>", "()V"⟩
abbrev cX7_isIn : ByteArray := prog_9_method_2_code
def yX7_isIn : MethodName := ⟨RX7, "isIn", "(III)Z"⟩
abbrev cX7_bound : ByteArray := prog_9_method_3_code
def yX7_bound : MethodName := ⟨RX7, "bound", "(III)I"⟩
abbrev cX7_many : ByteArray := prog_9_method_4_code
def yX7_many : MethodName := ⟨RX7, "many", "()I"⟩
abbrev cX7_isPair : ByteArray := prog_9_method_5_code
def yX7_isPair : MethodName := ⟨RX7, "isPair", "(I)Z"⟩
abbrev cX7_kind : ByteArray := prog_9_method_6_code
def yX7_kind : MethodName := ⟨RX7, "kind", "(I)I"⟩
abbrev cX7_number : ByteArray := prog_9_method_7_code
def yX7_number : MethodName := ⟨RX7, "number", "(I)I"⟩
abbrev cX7_anger : ByteArray := prog_9_method_8_code
def yX7_anger : MethodName := ⟨RX7, "anger", "(I)I"⟩
abbrev cX7_most : ByteArray := prog_9_method_9_code
def yX7_most : MethodName := ⟨RX7, "most", "(I)I"⟩
abbrev cX7_place : ByteArray := prog_9_method_10_code
def yX7_place : MethodName := ⟨RX7, "place", "(II)I"⟩
abbrev cX7_set : ByteArray := prog_9_method_11_code
def yX7_set : MethodName := ⟨RX7, "set", "(III)I"⟩
abbrev cX7_pair : ByteArray := prog_9_method_12_code
def yX7_pair : MethodName := ⟨RX7, "pair", "(III)I"⟩
abbrev cX7_told : ByteArray := prog_9_method_13_code
def yX7_told : MethodName := ⟨RX7, "told", "(II)I"⟩
abbrev cX7_things : ByteArray := prog_9_method_14_code
def yX7_things : MethodName := ⟨RX7, "things", "()I"⟩
abbrev cX7_firstText : ByteArray := prog_9_method_15_code
def yX7_firstText : MethodName := ⟨RX7, "firstText", "()I"⟩
abbrev cX7_feed : ByteArray := prog_9_method_16_code
def yX7_feed : MethodName := ⟨RX7, "feed", "(I)I"⟩
abbrev cX7_sortAt : ByteArray := prog_9_method_17_code
def yX7_sortAt : MethodName := ⟨RX7, "sortAt", "(I)I"⟩
abbrev cX7_next : ByteArray := prog_9_method_18_code
def yX7_next : MethodName := ⟨RX7, "next", "()V"⟩
abbrev cX7_word : ByteArray := prog_9_method_19_code
def yX7_word : MethodName := ⟨RX7, "word", "()I"⟩
abbrev cX7_isSign : ByteArray := prog_9_method_20_code
def yX7_isSign : MethodName := ⟨RX7, "isSign", "(I)Z"⟩
abbrev cX7_write : ByteArray := prog_9_method_21_code
def yX7_write : MethodName := ⟨RX7, "write", "(I)V"⟩
abbrev cX7_rank : ByteArray := prog_9_method_22_code
def yX7_rank : MethodName := ⟨RX7, "rank", "(I)I"⟩
abbrev cX7_await : ByteArray := prog_9_method_23_code
def yX7_await : MethodName := ⟨RX7, "await", "(I)V"⟩
abbrev cX7_last : ByteArray := prog_9_method_24_code
def yX7_last : MethodName := ⟨RX7, "last", "()I"⟩
abbrev cX7_settle : ByteArray := prog_9_method_25_code
def yX7_settle : MethodName := ⟨RX7, "settle", "(I)V"⟩
abbrev cX7_between : ByteArray := prog_9_method_26_code
def yX7_between : MethodName := ⟨RX7, "between", "()I"⟩
abbrev cX7_numberThere : ByteArray := prog_9_method_27_code
def yX7_numberThere : MethodName := ⟨RX7, "numberThere", "()I"⟩
abbrev cX7_begin : ByteArray := prog_9_method_28_code
def yX7_begin : MethodName := ⟨RX7, "begin", "()I"⟩
abbrev cX7_isE : ByteArray := prog_9_method_29_code
def yX7_isE : MethodName := ⟨RX7, "isE", "()Z"⟩
abbrev cX7_isText : ByteArray := prog_9_method_30_code
def yX7_isText : MethodName := ⟨RX7, "isText", "()Z"⟩
abbrev cX7_text : ByteArray := prog_9_method_31_code
def yX7_text : MethodName := ⟨RX7, "text", "()I"⟩
abbrev cX7_force : ByteArray := prog_9_method_32_code
def yX7_force : MethodName := ⟨RX7, "force", "(I)I"⟩
abbrev cX7_yes : ByteArray := prog_9_method_33_code
def yX7_yes : MethodName := ⟨RX7, "yes", "(Z)I"⟩
abbrev cX7_deed : ByteArray := prog_9_method_34_code
def yX7_deed : MethodName := ⟨RX7, "deed", "(III)I"⟩
abbrev cX7_tell : ByteArray := prog_9_method_35_code
def yX7_tell : MethodName := ⟨RX7, "tell", "(III)I"⟩
abbrev cX7_take : ByteArray := prog_9_method_36_code
def yX7_take : MethodName := ⟨RX7, "take", "(I)V"⟩
abbrev cX7_heats : ByteArray := prog_9_method_37_code
def yX7_heats : MethodName := ⟨RX7, "heats", "(II)I"⟩
abbrev cX7_cools : ByteArray := prog_9_method_38_code
def yX7_cools : MethodName := ⟨RX7, "cools", "(I)I"⟩
abbrev cX7_far : ByteArray := prog_9_method_39_code
def yX7_far : MethodName := ⟨RX7, "far", "(I)I"⟩
abbrev cX7_behindWord : ByteArray := prog_9_method_40_code
def yX7_behindWord : MethodName := ⟨RX7, "behindWord", "(II)I"⟩
abbrev cX7_behindMinute : ByteArray := prog_9_method_41_code
def yX7_behindMinute : MethodName := ⟨RX7, "behindMinute", "(I)I"⟩
abbrev cX7_say : ByteArray := prog_9_method_42_code
def yX7_say : MethodName := ⟨RX7, "say", "(II)I"⟩
abbrev cX7_quiet : ByteArray := prog_9_method_43_code
def yX7_quiet : MethodName := ⟨RX7, "quiet", "(I)I"⟩
abbrev cX7_sees : ByteArray := prog_9_method_44_code
def yX7_sees : MethodName := ⟨RX7, "sees", "(I)I"⟩
abbrev cX7_furthest : ByteArray := prog_9_method_45_code
def yX7_furthest : MethodName := ⟨RX7, "furthest", "()I"⟩
abbrev cX7_sight : ByteArray := prog_9_method_46_code
def yX7_sight : MethodName := ⟨RX7, "sight", "()I"⟩
abbrev cX7_view : ByteArray := prog_9_method_47_code
def yX7_view : MethodName := ⟨RX7, "view", "(I)I"⟩
abbrev cX7_bits : ByteArray := prog_9_method_48_code
def yX7_bits : MethodName := ⟨RX7, "bits", "(I)J"⟩
abbrev cX7_clear : ByteArray := prog_9_method_49_code
def yX7_clear : MethodName := ⟨RX7, "clear", "(I)J"⟩
abbrev cX7_fill : ByteArray := prog_9_method_50_code
def yX7_fill : MethodName := ⟨RX7, "fill", "(I)V"⟩
abbrev cX7_fillWants : ByteArray := prog_9_method_51_code
def yX7_fillWants : MethodName := ⟨RX7, "fillWants", "(I)V"⟩
abbrev cX7_fewest : ByteArray := prog_9_method_52_code
def yX7_fewest : MethodName := ⟨RX7, "fewest", "(III)I"⟩
abbrev cX7_reach : ByteArray := prog_9_method_53_code
def yX7_reach : MethodName := ⟨RX7, "reach", "(I)V"⟩
abbrev cX7_farthestEver : ByteArray := prog_9_method_54_code
def yX7_farthestEver : MethodName := ⟨RX7, "farthestEver", "()I"⟩
abbrev cX7_words : ByteArray := prog_9_method_55_code
def yX7_words : MethodName := ⟨RX7, "words", "(II)I"⟩
abbrev cX7_stays : ByteArray := prog_9_method_56_code
def yX7_stays : MethodName := ⟨RX7, "stays", "(II)I"⟩
abbrev cX7_gcd : ByteArray := prog_9_method_57_code
def yX7_gcd : MethodName := ⟨RX7, "gcd", "(JJ)J"⟩
abbrev cX7_rows : ByteArray := prog_9_method_58_code
def yX7_rows : MethodName := ⟨RX7, "rows", "(IIII)J"⟩
abbrev cX7_whomBy : ByteArray := prog_9_method_59_code
def yX7_whomBy : MethodName := ⟨RX7, "whomBy", "(II)I"⟩
abbrev cX7_whom : ByteArray := prog_9_method_60_code
def yX7_whom : MethodName := ⟨RX7, "whom", "(II)I"⟩
abbrev cX7_isSheet : ByteArray := prog_9_method_61_code
def yX7_isSheet : MethodName := ⟨RX7, "isSheet", "(I)Z"⟩
abbrev cX7_sheet : ByteArray := prog_9_method_62_code
def yX7_sheet : MethodName := ⟨RX7, "sheet", "(III)I"⟩
abbrev cX7_cell : ByteArray := prog_9_method_63_code
def yX7_cell : MethodName := ⟨RX7, "cell", "(III)I"⟩
abbrev cX7_copy : ByteArray := prog_9_method_64_code
def yX7_copy : MethodName := ⟨RX7, "copy", "(IIIII)I"⟩
abbrev cX7_pairs : ByteArray := prog_9_method_65_code
def yX7_pairs : MethodName := ⟨RX7, "pairs", "(IIII)I"⟩
abbrev cX7_taken : ByteArray := prog_9_method_66_code
def yX7_taken : MethodName := ⟨RX7, "taken", "(II)I"⟩
abbrev cX7_otherwise : ByteArray := prog_9_method_67_code
def yX7_otherwise : MethodName := ⟨RX7, "otherwise", "(II)I"⟩
abbrev cX7_fits : ByteArray := prog_9_method_68_code
def yX7_fits : MethodName := ⟨RX7, "fits", "(II)Z"⟩
abbrev cX7_fitAngers : ByteArray := prog_9_method_69_code
def yX7_fitAngers : MethodName := ⟨RX7, "fitAngers", "(IZ)I"⟩
abbrev cX7_tells : ByteArray := prog_9_method_70_code
def yX7_tells : MethodName := ⟨RX7, "tells", "(III)I"⟩
abbrev cX7_film : ByteArray := prog_9_method_71_code
def yX7_film : MethodName := ⟨RX7, "film", "(III)I"⟩
abbrev cX7_farBehind : ByteArray := prog_9_method_72_code
def yX7_farBehind : MethodName := ⟨RX7, "farBehind", "(III)I"⟩
abbrev cX7_drawn : ByteArray := prog_9_method_73_code
def yX7_drawn : MethodName := ⟨RX7, "drawn", "(III)I"⟩
abbrev cX7_chance : ByteArray := prog_9_method_74_code
def yX7_chance : MethodName := ⟨RX7, "chance", "(IIIII)J"⟩
abbrev cX7_image : ByteArray := prog_9_method_75_code
def yX7_image : MethodName := ⟨RX7, "image", "()I"⟩
abbrev cX7_back : ByteArray := prog_9_method_76_code
def yX7_back : MethodName := ⟨RX7, "back", "()I"⟩
abbrev cX7_count : ByteArray := prog_9_method_77_code
def yX7_count : MethodName := ⟨RX7, "count", "(I)I"⟩
def RJx145de : String := "java/io/Serializable"
def TJx145de : u_T := fun k => match k with
  | _ => ("", "", "", false)
def tyJx145de : Nat → FieldType := fun k => match k with
  | _ => .int
theorem nmJx145de : ∀ a, a < 0 → ∀ b, b < 0 → a ≠ b → (TJx145de a).2.1 ≠ (TJx145de b).2.1 := by decide +kernel
theorem tyJx145de_ok : ∀ k, k < 0 → parseFieldDescriptor (TJx145de k).2.2.1 = some (tyJx145de k) := by decide +kernel
def RJx9f9b0 : String := "java/lang/CharSequence"
def TJx9f9b0 : u_T := fun k => match k with
  | _ => ("", "", "", false)
def tyJx9f9b0 : Nat → FieldType := fun k => match k with
  | _ => .int
theorem nmJx9f9b0 : ∀ a, a < 0 → ∀ b, b < 0 → a ≠ b → (TJx9f9b0 a).2.1 ≠ (TJx9f9b0 b).2.1 := by decide +kernel
theorem tyJx9f9b0_ok : ∀ k, k < 0 → parseFieldDescriptor (TJx9f9b0 k).2.2.1 = some (tyJx9f9b0 k) := by decide +kernel
def RJ11 : String := "java/lang/Character"
def TJ11 : u_T := fun k => match k with
  | _ => ("", "", "", false)
def tyJ11 : Nat → FieldType := fun k => match k with
  | _ => .int
theorem nmJ11 : ∀ a, a < 0 → ∀ b, b < 0 → a ≠ b → (TJ11 a).2.1 ≠ (TJ11 b).2.1 := by decide +kernel
theorem tyJ11_ok : ∀ k, k < 0 → parseFieldDescriptor (TJ11 k).2.2.1 = some (tyJ11 k) := by decide +kernel
abbrev cJ11_isValidCodePoint_9a6ad : ByteArray := prog_10_method_11_code
def yJ11_isValidCodePoint_9a6ad : MethodName := ⟨RJ11, "isValidCodePoint", "(I)Z"⟩
abbrev cJ11_highSurrogate_5068e : ByteArray := prog_10_method_28_code
def yJ11_highSurrogate_5068e : MethodName := ⟨RJ11, "highSurrogate", "(I)C"⟩
abbrev cJ11_lowSurrogate_5068e : ByteArray := prog_10_method_29_code
def yJ11_lowSurrogate_5068e : MethodName := ⟨RJ11, "lowSurrogate", "(I)C"⟩
def RJxb160c : String := "java/lang/Comparable"
def TJxb160c : u_T := fun k => match k with
  | _ => ("", "", "", false)
def tyJxb160c : Nat → FieldType := fun k => match k with
  | _ => .int
theorem nmJxb160c : ∀ a, a < 0 → ∀ b, b < 0 → a ≠ b → (TJxb160c a).2.1 ≠ (TJxb160c b).2.1 := by decide +kernel
theorem tyJxb160c_ok : ∀ k, k < 0 → parseFieldDescriptor (TJxb160c k).2.2.1 = some (tyJxb160c k) := by decide +kernel
def RJ13 : String := "java/lang/Long"
def TJ13 : u_T := fun k => match k with
  | _ => ("", "", "", false)
def tyJ13 : Nat → FieldType := fun k => match k with
  | _ => .int
theorem nmJ13 : ∀ a, a < 0 → ∀ b, b < 0 → a ≠ b → (TJ13 a).2.1 ≠ (TJ13 b).2.1 := by decide +kernel
theorem tyJ13_ok : ∀ k, k < 0 → parseFieldDescriptor (TJ13 k).2.2.1 = some (tyJ13 k) := by decide +kernel
abbrev cJ13_bitCount_95d88 : ByteArray := prog_11_method_50_code
def yJ13_bitCount_95d88 : MethodName := ⟨RJ13, "bitCount", "(J)I"⟩
def RJ9 : String := "java/lang/Math"
def TJ9 : u_T := fun k => match k with
  | _ => ("", "", "", false)
def tyJ9 : Nat → FieldType := fun k => match k with
  | _ => .int
theorem nmJ9 : ∀ a, a < 0 → ∀ b, b < 0 → a ≠ b → (TJ9 a).2.1 ≠ (TJ9 b).2.1 := by decide +kernel
theorem tyJ9_ok : ∀ k, k < 0 → parseFieldDescriptor (TJ9 k).2.2.1 = some (tyJ9 k) := by decide +kernel
abbrev cJ9_max_7cf53 : ByteArray := prog_12_method_65_code
def yJ9_max_7cf53 : MethodName := ⟨RJ9, "max", "(II)I"⟩
abbrev cJ9_min_7cf53 : ByteArray := prog_12_method_69_code
def yJ9_min_7cf53 : MethodName := ⟨RJ9, "min", "(II)I"⟩
def RJ0 : String := "java/lang/String"
def TJ0 : u_T := fun k => match k with
  | _ => ("", "", "", false)
def tyJ0 : Nat → FieldType := fun k => match k with
  | _ => .int
theorem nmJ0 : ∀ a, a < 0 → ∀ b, b < 0 → a ≠ b → (TJ0 a).2.1 ≠ (TJ0 b).2.1 := by decide +kernel
theorem tyJ0_ok : ∀ k, k < 0 → parseFieldDescriptor (TJ0 k).2.2.1 = some (tyJ0 k) := by decide +kernel
abbrev cJ0_length_8abf5 : ByteArray := prog_13_method_54_code
def yJ0_length_8abf5 : MethodName := ⟨RJ0, "length", "()I"⟩
abbrev cJ0_charAt_5068e : ByteArray := prog_13_method_56_code
def yJ0_charAt_5068e : MethodName := ⟨RJ0, "charAt", "(I)C"⟩
abbrev cJ0_indexOf_0f7a4 : ByteArray := prog_13_method_79_code
def yJ0_indexOf_0f7a4 : MethodName := ⟨RJ0, "indexOf", "(I)I"⟩
abbrev cJ0_indexOf_7cf53 : ByteArray := prog_13_method_80_code
def yJ0_indexOf_7cf53 : MethodName := ⟨RJ0, "indexOf", "(II)I"⟩
abbrev cJ0_coder_7d493 : ByteArray := prog_13_method_152_code
def yJ0_coder_7d493 : MethodName := ⟨RJ0, "coder", "()B"⟩
abbrev cJ0_isLatin1_aae02 : ByteArray := prog_13_method_154_code
def yJ0_isLatin1_aae02 : MethodName := ⟨RJ0, "isLatin1", "()Z"⟩
abbrev cJ0_checkIndex_df160 : ByteArray := prog_13_method_155_code
def yJ0_checkIndex_df160 : MethodName := ⟨RJ0, "checkIndex", "(II)V"⟩
abbrev cJ0_checkBoundsBeginEnd_23922 : ByteArray := prog_13_method_158_code
def yJ0_checkBoundsBeginEnd_23922 : MethodName := ⟨RJ0, "checkBoundsBeginEnd", "(III)V"⟩
def RJ1 : String := "java/lang/StringLatin1"
def TJ1 : u_T := fun k => match k with
  | _ => ("", "", "", false)
def tyJ1 : Nat → FieldType := fun k => match k with
  | _ => .int
theorem nmJ1 : ∀ a, a < 0 → ∀ b, b < 0 → a ≠ b → (TJ1 a).2.1 ≠ (TJ1 b).2.1 := by decide +kernel
theorem tyJ1_ok : ∀ k, k < 0 → parseFieldDescriptor (TJ1 k).2.2.1 = some (tyJ1 k) := by decide +kernel
abbrev cJ1_charAt_3b067 : ByteArray := prog_14_method_2_code
def yJ1_charAt_3b067 : MethodName := ⟨RJ1, "charAt", "([BI)C"⟩
abbrev cJ1_canEncode_9a6ad : ByteArray := prog_14_method_4_code
def yJ1_canEncode_9a6ad : MethodName := ⟨RJ1, "canEncode", "(I)Z"⟩
abbrev cJ1_indexOf_4cfef : ByteArray := prog_14_method_22_code
def yJ1_indexOf_4cfef : MethodName := ⟨RJ1, "indexOf", "([BIII)I"⟩
abbrev cJ1_indexOfChar_4cfef : ByteArray := prog_14_method_23_code
def yJ1_indexOfChar_4cfef : MethodName := ⟨RJ1, "indexOfChar", "([BIII)I"⟩
def RJ2 : String := "java/lang/StringUTF16"
def TJ2 : u_T := fun k => match k with
  | _ => ("", "", "", false)
def tyJ2 : Nat → FieldType := fun k => match k with
  | _ => .int
theorem nmJ2 : ∀ a, a < 0 → ∀ b, b < 0 → a ≠ b → (TJ2 a).2.1 ≠ (TJ2 b).2.1 := by decide +kernel
theorem tyJ2_ok : ∀ k, k < 0 → parseFieldDescriptor (TJ2 k).2.2.1 = some (tyJ2 k) := by decide +kernel
abbrev cJ2_getChar_3b067 : ByteArray := prog_15_method_5_code
def yJ2_getChar_3b067 : MethodName := ⟨RJ2, "getChar", "([BI)C"⟩
abbrev cJ2_length_9d52b : ByteArray := prog_15_method_6_code
def yJ2_length_9d52b : MethodName := ⟨RJ2, "length", "([B)I"⟩
abbrev cJ2_indexOf_4cfef : ByteArray := prog_15_method_40_code
def yJ2_indexOf_4cfef : MethodName := ⟨RJ2, "indexOf", "([BIII)I"⟩
abbrev cJ2_indexOfChar_4cfef : ByteArray := prog_15_method_47_code
def yJ2_indexOfChar_4cfef : MethodName := ⟨RJ2, "indexOfChar", "([BIII)I"⟩
abbrev cJ2_indexOfCharUnsafe_4cfef : ByteArray := prog_15_method_48_code
def yJ2_indexOfCharUnsafe_4cfef : MethodName := ⟨RJ2, "indexOfCharUnsafe", "([BIII)I"⟩
abbrev cJ2_indexOfSupplementary_4cfef : ByteArray := prog_15_method_49_code
def yJ2_indexOfSupplementary_4cfef : MethodName := ⟨RJ2, "indexOfSupplementary", "([BIII)I"⟩
abbrev cJ2_charAt_3b067 : ByteArray := prog_15_method_83_code
def yJ2_charAt_3b067 : MethodName := ⟨RJ2, "charAt", "([BI)C"⟩
abbrev cJ2_checkIndex_2214a : ByteArray := prog_15_method_91_code
def yJ2_checkIndex_2214a : MethodName := ⟨RJ2, "checkIndex", "(I[B)V"⟩
abbrev cJ2_checkBoundsBeginEnd_d044e : ByteArray := prog_15_method_93_code
def yJ2_checkBoundsBeginEnd_d044e : MethodName := ⟨RJ2, "checkBoundsBeginEnd", "(II[B)V"⟩
def RJ10 : String := "java/lang/System"
def TJ10 : u_T := fun k => match k with
  | _ => ("", "", "", false)
def tyJ10 : Nat → FieldType := fun k => match k with
  | _ => .int
theorem nmJ10 : ∀ a, a < 0 → ∀ b, b < 0 → a ≠ b → (TJ10 a).2.1 ≠ (TJ10 b).2.1 := by decide +kernel
theorem tyJ10_ok : ∀ k, k < 0 → parseFieldDescriptor (TJ10 k).2.2.1 = some (tyJ10 k) := by decide +kernel
def RJxfd54e : String := "java/lang/constant/Constable"
def TJxfd54e : u_T := fun k => match k with
  | _ => ("", "", "", false)
def tyJxfd54e : Nat → FieldType := fun k => match k with
  | _ => .int
theorem nmJxfd54e : ∀ a, a < 0 → ∀ b, b < 0 → a ≠ b → (TJxfd54e a).2.1 ≠ (TJxfd54e b).2.1 := by decide +kernel
theorem tyJxfd54e_ok : ∀ k, k < 0 → parseFieldDescriptor (TJxfd54e k).2.2.1 = some (tyJxfd54e k) := by decide +kernel
def RJx3cf43 : String := "java/lang/constant/ConstantDesc"
def TJx3cf43 : u_T := fun k => match k with
  | _ => ("", "", "", false)
def tyJx3cf43 : Nat → FieldType := fun k => match k with
  | _ => .int
theorem nmJx3cf43 : ∀ a, a < 0 → ∀ b, b < 0 → a ≠ b → (TJx3cf43 a).2.1 ≠ (TJx3cf43 b).2.1 := by decide +kernel
theorem tyJx3cf43_ok : ∀ k, k < 0 → parseFieldDescriptor (TJx3cf43 k).2.2.1 = some (tyJx3cf43 k) := by decide +kernel
def RJ7 : String := "java/util/Arrays"
def TJ7 : u_T := fun k => match k with
  | _ => ("", "", "", false)
def tyJ7 : Nat → FieldType := fun k => match k with
  | _ => .int
theorem nmJ7 : ∀ a, a < 0 → ∀ b, b < 0 → a ≠ b → (TJ7 a).2.1 ≠ (TJ7 b).2.1 := by decide +kernel
theorem tyJ7_ok : ∀ k, k < 0 → parseFieldDescriptor (TJ7 k).2.2.1 = some (tyJ7 k) := by decide +kernel
abbrev cJ7_fill_d0a16 : ByteArray := prog_17_method_101_code
def yJ7_fill_d0a16 : MethodName := ⟨RJ7, "fill", "([JJ)V"⟩
abbrev cJ7_fill_53178 : ByteArray := prog_17_method_103_code
def yJ7_fill_53178 : MethodName := ⟨RJ7, "fill", "([II)V"⟩
def RJ3 : String := "jdk/internal/util/Preconditions"
def TJ3 : u_T := fun k => match k with
  | _ => ("", "", "", false)
def tyJ3 : Nat → FieldType := fun k => match k with
  | _ => .int
theorem nmJ3 : ∀ a, a < 0 → ∀ b, b < 0 → a ≠ b → (TJ3 a).2.1 ≠ (TJ3 b).2.1 := by decide +kernel
theorem tyJ3_ok : ∀ k, k < 0 → parseFieldDescriptor (TJ3 k).2.2.1 = some (tyJ3 k) := by decide +kernel
abbrev cJ3_checkIndex_8e157 : ByteArray := prog_18_method_11_code
def yJ3_checkIndex_8e157 : MethodName := ⟨RJ3, "checkIndex", "(IILjava/util/function/BiFunction;)I"⟩
abbrev cJ3_checkFromToIndex_8c36e : ByteArray := prog_18_method_12_code
def yJ3_checkFromToIndex_8c36e : MethodName := ⟨RJ3, "checkFromToIndex", "(IIILjava/util/function/BiFunction;)I"⟩
def RL : String := "NoViewWithoutQuarrelLaw"
abbrev cL_law : ByteArray := code
def yL_law : MethodName := ⟨RL, "law", "([I)Z"⟩
abbrev vwCl : List vw_C := [(RX0, TX0, 8), (RX1, TX1, 8), (RX2, TX2, 8), (RX3, TX3, 3), (RX4, TX4, 4), (RX5, TX5, 5), (RX6, TX6, 8), (RX7, TX7, 32)]
end
section
theorem dX0_init_0 : decode cX0_init 0 = .ok (.aload_n 0, 1) := by decide +kernel
theorem dX0_init_1 : decode cX0_init 1 = .ok (.invokespecial 3, 3) := by decide +kernel
theorem dX0_init_4 : decode cX0_init 4 = .ok (.aload_n 0, 1) := by decide +kernel
theorem dX0_init_5 : decode cX0_init 5 = .ok (.bipush 100, 2) := by decide +kernel
theorem dX0_init_7 : decode cX0_init 7 = .ok (.newarray .int, 2) := by decide +kernel
theorem dX0_init_9 : decode cX0_init 9 = .ok (.putfield 9, 3) := by decide +kernel
theorem dX0_init_12 : decode cX0_init 12 = .ok (.aload_n 0, 1) := by decide +kernel
theorem dX0_init_13 : decode cX0_init 13 = .ok (.bipush 100, 2) := by decide +kernel
theorem dX0_init_15 : decode cX0_init 15 = .ok (.newarray .int, 2) := by decide +kernel
theorem dX0_init_17 : decode cX0_init 17 = .ok (.putfield 15, 3) := by decide +kernel
theorem dX0_init_20 : decode cX0_init 20 = .ok (.aload_n 0, 1) := by decide +kernel
theorem dX0_init_21 : decode cX0_init 21 = .ok (.bipush 100, 2) := by decide +kernel
theorem dX0_init_23 : decode cX0_init 23 = .ok (.newarray .int, 2) := by decide +kernel
theorem dX0_init_25 : decode cX0_init 25 = .ok (.putfield 18, 3) := by decide +kernel
theorem dX0_init_28 : decode cX0_init 28 = .ok (.aload_n 0, 1) := by decide +kernel
theorem dX0_init_29 : decode cX0_init 29 = .ok (.bipush 100, 2) := by decide +kernel
theorem dX0_init_31 : decode cX0_init 31 = .ok (.newarray .int, 2) := by decide +kernel
theorem dX0_init_33 : decode cX0_init 33 = .ok (.putfield 21, 3) := by decide +kernel
theorem dX0_init_36 : decode cX0_init 36 = .ok (.aload_n 0, 1) := by decide +kernel
theorem dX0_init_37 : decode cX0_init 37 = .ok (.sipush 600, 3) := by decide +kernel
theorem dX0_init_40 : decode cX0_init 40 = .ok (.newarray .int, 2) := by decide +kernel
theorem dX0_init_42 : decode cX0_init 42 = .ok (.putfield 24, 3) := by decide +kernel
theorem dX0_init_45 : decode cX0_init 45 = .ok (.aload_n 0, 1) := by decide +kernel
theorem dX0_init_46 : decode cX0_init 46 = .ok (.bipush 100, 2) := by decide +kernel
theorem dX0_init_48 : decode cX0_init 48 = .ok (.newarray .long, 2) := by decide +kernel
theorem dX0_init_50 : decode cX0_init 50 = .ok (.putfield 27, 3) := by decide +kernel
theorem dX0_init_53 : decode cX0_init 53 = .ok (.aload_n 0, 1) := by decide +kernel
theorem dX0_init_54 : decode cX0_init 54 = .ok (.bipush 100, 2) := by decide +kernel
theorem dX0_init_56 : decode cX0_init 56 = .ok (.newarray .long, 2) := by decide +kernel
theorem dX0_init_58 : decode cX0_init 58 = .ok (.putfield 31, 3) := by decide +kernel
theorem dX0_init_61 : decode cX0_init 61 = .ok (.return_, 1) := by decide +kernel
theorem dX0_spread_0 : decode cX0_spread 0 = .ok (.aload_n 1, 1) := by decide +kernel
theorem dX0_spread_1 : decode cX0_spread 1 = .ok (.aload_n 2, 1) := by decide +kernel
theorem dX0_spread_2 : decode cX0_spread 2 = .ok (.iload_n 3, 1) := by decide +kernel
theorem dX0_spread_3 : decode cX0_spread 3 = .ok (.invokevirtual 34, 3) := by decide +kernel
theorem dX0_spread_6 : decode cX0_spread 6 = .ok (.aload_n 0, 1) := by decide +kernel
theorem dX0_spread_7 : decode cX0_spread 7 = .ok (.getfield 15, 3) := by decide +kernel
theorem dX0_spread_10 : decode cX0_spread 10 = .ok (.iconst (-1), 1) := by decide +kernel
theorem dX0_spread_11 : decode cX0_spread 11 = .ok (.invokestatic 40, 3) := by decide +kernel
theorem dX0_spread_14 : decode cX0_spread 14 = .ok (.aload_n 0, 1) := by decide +kernel
theorem dX0_spread_15 : decode cX0_spread 15 = .ok (.iconst 0, 1) := by decide +kernel
theorem dX0_spread_16 : decode cX0_spread 16 = .ok (.putfield 46, 3) := by decide +kernel
theorem dX0_spread_19 : decode cX0_spread 19 = .ok (.aload_n 0, 1) := by decide +kernel
theorem dX0_spread_20 : decode cX0_spread 20 = .ok (.aload_n 2, 1) := by decide +kernel
theorem dX0_spread_21 : decode cX0_spread 21 = .ok (.iload_n 3, 1) := by decide +kernel
theorem dX0_spread_22 : decode cX0_spread 22 = .ok (.invokevirtual 50, 3) := by decide +kernel
theorem dX0_spread_25 : decode cX0_spread 25 = .ok (.iconst (-1), 1) := by decide +kernel
theorem dX0_spread_26 : decode cX0_spread 26 = .ok (.iconst (-1), 1) := by decide +kernel
theorem dX0_spread_27 : decode cX0_spread 27 = .ok (.invokevirtual 56, 3) := by decide +kernel
theorem dX0_spread_30 : decode cX0_spread 30 = .ok (.iconst 0, 1) := by decide +kernel
theorem dX0_spread_31 : decode cX0_spread 31 = .ok (.istore 4, 2) := by decide +kernel
theorem dX0_spread_33 : decode cX0_spread 33 = .ok (.iload 4, 2) := by decide +kernel
theorem dX0_spread_35 : decode cX0_spread 35 = .ok (.aload_n 0, 1) := by decide +kernel
theorem dX0_spread_36 : decode cX0_spread 36 = .ok (.getfield 46, 3) := by decide +kernel
theorem dX0_spread_39 : decode cX0_spread 39 = .ok (.if_icmp .ge 76, 3) := by decide +kernel
theorem dX0_spread_42 : decode cX0_spread 42 = .ok (.iload 4, 2) := by decide +kernel
theorem dX0_spread_44 : decode cX0_spread 44 = .ok (.bipush 100, 2) := by decide +kernel
theorem dX0_spread_46 : decode cX0_spread 46 = .ok (.if_icmp .ge 69, 3) := by decide +kernel
theorem dX0_spread_49 : decode cX0_spread 49 = .ok (.aload_n 0, 1) := by decide +kernel
theorem dX0_spread_50 : decode cX0_spread 50 = .ok (.getfield 9, 3) := by decide +kernel
theorem dX0_spread_53 : decode cX0_spread 53 = .ok (.iload 4, 2) := by decide +kernel
theorem dX0_spread_55 : decode cX0_spread 55 = .ok (.iaload, 1) := by decide +kernel
theorem dX0_spread_56 : decode cX0_spread 56 = .ok (.istore 5, 2) := by decide +kernel
theorem dX0_spread_58 : decode cX0_spread 58 = .ok (.iconst 0, 1) := by decide +kernel
theorem dX0_spread_59 : decode cX0_spread 59 = .ok (.istore 6, 2) := by decide +kernel
theorem dX0_spread_61 : decode cX0_spread 61 = .ok (.iload 6, 2) := by decide +kernel
theorem dX0_spread_63 : decode cX0_spread 63 = .ok (.bipush 6, 2) := by decide +kernel
theorem dX0_spread_65 : decode cX0_spread 65 = .ok (.if_icmp .ge 44, 3) := by decide +kernel
theorem dX0_spread_68 : decode cX0_spread 68 = .ok (.aload_n 1, 1) := by decide +kernel
theorem dX0_spread_69 : decode cX0_spread 69 = .ok (.iload 5, 2) := by decide +kernel
theorem dX0_spread_71 : decode cX0_spread 71 = .ok (.iload 6, 2) := by decide +kernel
theorem dX0_spread_73 : decode cX0_spread 73 = .ok (.invokevirtual 60, 3) := by decide +kernel
theorem dX0_spread_76 : decode cX0_spread 76 = .ok (.istore 7, 2) := by decide +kernel
theorem dX0_spread_78 : decode cX0_spread 78 = .ok (.aload_n 0, 1) := by decide +kernel
theorem dX0_spread_79 : decode cX0_spread 79 = .ok (.getfield 24, 3) := by decide +kernel
theorem dX0_spread_82 : decode cX0_spread 82 = .ok (.iload 5, 2) := by decide +kernel
theorem dX0_spread_84 : decode cX0_spread 84 = .ok (.bipush 6, 2) := by decide +kernel
theorem dX0_spread_86 : decode cX0_spread 86 = .ok (.imul, 1) := by decide +kernel
theorem dX0_spread_87 : decode cX0_spread 87 = .ok (.iload 6, 2) := by decide +kernel
theorem dX0_spread_89 : decode cX0_spread 89 = .ok (.iadd, 1) := by decide +kernel
theorem dX0_spread_90 : decode cX0_spread 90 = .ok (.iload 7, 2) := by decide +kernel
theorem dX0_spread_92 : decode cX0_spread 92 = .ok (.iastore, 1) := by decide +kernel
theorem dX0_spread_93 : decode cX0_spread 93 = .ok (.aload_n 0, 1) := by decide +kernel
theorem dX0_spread_94 : decode cX0_spread 94 = .ok (.iload 7, 2) := by decide +kernel
theorem dX0_spread_96 : decode cX0_spread 96 = .ok (.iload 5, 2) := by decide +kernel
theorem dX0_spread_98 : decode cX0_spread 98 = .ok (.iload 6, 2) := by decide +kernel
theorem dX0_spread_100 : decode cX0_spread 100 = .ok (.invokevirtual 56, 3) := by decide +kernel
theorem dX0_spread_103 : decode cX0_spread 103 = .ok (.iinc 6 1, 3) := by decide +kernel
theorem dX0_spread_106 : decode cX0_spread 106 = .ok (.goto (-45), 3) := by decide +kernel
theorem dX0_spread_109 : decode cX0_spread 109 = .ok (.iinc 4 1, 3) := by decide +kernel
theorem dX0_spread_112 : decode cX0_spread 112 = .ok (.goto (-79), 3) := by decide +kernel
theorem dX0_spread_115 : decode cX0_spread 115 = .ok (.return_, 1) := by decide +kernel
theorem dX0_meet_0 : decode cX0_meet 0 = .ok (.iload_n 1, 1) := by decide +kernel
theorem dX0_meet_1 : decode cX0_meet 1 = .ok (.bipush 100, 2) := by decide +kernel
theorem dX0_meet_3 : decode cX0_meet 3 = .ok (.invokestatic 64, 3) := by decide +kernel
theorem dX0_meet_6 : decode cX0_meet 6 = .ok (.ifCond .eq 25, 3) := by decide +kernel
theorem dX0_meet_9 : decode cX0_meet 9 = .ok (.aload_n 0, 1) := by decide +kernel
theorem dX0_meet_10 : decode cX0_meet 10 = .ok (.getfield 15, 3) := by decide +kernel
theorem dX0_meet_13 : decode cX0_meet 13 = .ok (.iload_n 1, 1) := by decide +kernel
theorem dX0_meet_14 : decode cX0_meet 14 = .ok (.iaload, 1) := by decide +kernel
theorem dX0_meet_15 : decode cX0_meet 15 = .ok (.iconst (-1), 1) := by decide +kernel
theorem dX0_meet_16 : decode cX0_meet 16 = .ok (.if_icmp .ne 15, 3) := by decide +kernel
theorem dX0_meet_19 : decode cX0_meet 19 = .ok (.aload_n 0, 1) := by decide +kernel
theorem dX0_meet_20 : decode cX0_meet 20 = .ok (.getfield 46, 3) := by decide +kernel
theorem dX0_meet_23 : decode cX0_meet 23 = .ok (.bipush 100, 2) := by decide +kernel
theorem dX0_meet_25 : decode cX0_meet 25 = .ok (.invokestatic 64, 3) := by decide +kernel
theorem dX0_meet_28 : decode cX0_meet 28 = .ok (.ifCond .ne 4, 3) := by decide +kernel
theorem dX0_meet_31 : decode cX0_meet 31 = .ok (.return_, 1) := by decide +kernel
theorem dX0_meet_32 : decode cX0_meet 32 = .ok (.aload_n 0, 1) := by decide +kernel
theorem dX0_meet_33 : decode cX0_meet 33 = .ok (.getfield 15, 3) := by decide +kernel
theorem dX0_meet_36 : decode cX0_meet 36 = .ok (.iload_n 1, 1) := by decide +kernel
theorem dX0_meet_37 : decode cX0_meet 37 = .ok (.iload_n 2, 1) := by decide +kernel
theorem dX0_meet_38 : decode cX0_meet 38 = .ok (.bipush 100, 2) := by decide +kernel
theorem dX0_meet_40 : decode cX0_meet 40 = .ok (.invokestatic 64, 3) := by decide +kernel
theorem dX0_meet_43 : decode cX0_meet 43 = .ok (.ifCond .eq 14, 3) := by decide +kernel
theorem dX0_meet_46 : decode cX0_meet 46 = .ok (.aload_n 0, 1) := by decide +kernel
theorem dX0_meet_47 : decode cX0_meet 47 = .ok (.getfield 15, 3) := by decide +kernel
theorem dX0_meet_50 : decode cX0_meet 50 = .ok (.iload_n 2, 1) := by decide +kernel
theorem dX0_meet_51 : decode cX0_meet 51 = .ok (.iaload, 1) := by decide +kernel
theorem dX0_meet_52 : decode cX0_meet 52 = .ok (.iconst 1, 1) := by decide +kernel
theorem dX0_meet_53 : decode cX0_meet 53 = .ok (.iadd, 1) := by decide +kernel
theorem dX0_meet_54 : decode cX0_meet 54 = .ok (.goto 4, 3) := by decide +kernel
theorem dX0_meet_57 : decode cX0_meet 57 = .ok (.iconst 0, 1) := by decide +kernel
theorem dX0_meet_58 : decode cX0_meet 58 = .ok (.iastore, 1) := by decide +kernel
theorem dX0_meet_59 : decode cX0_meet 59 = .ok (.aload_n 0, 1) := by decide +kernel
theorem dX0_meet_60 : decode cX0_meet 60 = .ok (.getfield 18, 3) := by decide +kernel
theorem dX0_meet_63 : decode cX0_meet 63 = .ok (.iload_n 1, 1) := by decide +kernel
theorem dX0_meet_64 : decode cX0_meet 64 = .ok (.iload_n 2, 1) := by decide +kernel
theorem dX0_meet_65 : decode cX0_meet 65 = .ok (.iastore, 1) := by decide +kernel
theorem dX0_meet_66 : decode cX0_meet 66 = .ok (.aload_n 0, 1) := by decide +kernel
theorem dX0_meet_67 : decode cX0_meet 67 = .ok (.getfield 21, 3) := by decide +kernel
theorem dX0_meet_70 : decode cX0_meet 70 = .ok (.iload_n 1, 1) := by decide +kernel
theorem dX0_meet_71 : decode cX0_meet 71 = .ok (.iload_n 3, 1) := by decide +kernel
theorem dX0_meet_72 : decode cX0_meet 72 = .ok (.iastore, 1) := by decide +kernel
theorem dX0_meet_73 : decode cX0_meet 73 = .ok (.aload_n 0, 1) := by decide +kernel
theorem dX0_meet_74 : decode cX0_meet 74 = .ok (.getfield 9, 3) := by decide +kernel
theorem dX0_meet_77 : decode cX0_meet 77 = .ok (.aload_n 0, 1) := by decide +kernel
theorem dX0_meet_78 : decode cX0_meet 78 = .ok (.getfield 46, 3) := by decide +kernel
theorem dX0_meet_81 : decode cX0_meet 81 = .ok (.iload_n 1, 1) := by decide +kernel
theorem dX0_meet_82 : decode cX0_meet 82 = .ok (.iastore, 1) := by decide +kernel
theorem dX0_meet_83 : decode cX0_meet 83 = .ok (.aload_n 0, 1) := by decide +kernel
theorem dX0_meet_84 : decode cX0_meet 84 = .ok (.dup, 1) := by decide +kernel
theorem dX0_meet_85 : decode cX0_meet 85 = .ok (.getfield 46, 3) := by decide +kernel
theorem dX0_meet_88 : decode cX0_meet 88 = .ok (.iconst 1, 1) := by decide +kernel
theorem dX0_meet_89 : decode cX0_meet 89 = .ok (.iadd, 1) := by decide +kernel
theorem dX0_meet_90 : decode cX0_meet 90 = .ok (.putfield 46, 3) := by decide +kernel
theorem dX0_meet_93 : decode cX0_meet 93 = .ok (.return_, 1) := by decide +kernel
theorem dX0_first_0 : decode cX0_first 0 = .ok (.iconst 0, 1) := by decide +kernel
theorem dX0_first_1 : decode cX0_first 1 = .ok (.istore_n 3, 1) := by decide +kernel
theorem dX0_first_2 : decode cX0_first 2 = .ok (.iload_n 3, 1) := by decide +kernel
theorem dX0_first_3 : decode cX0_first 3 = .ok (.aload_n 0, 1) := by decide +kernel
theorem dX0_first_4 : decode cX0_first 4 = .ok (.getfield 46, 3) := by decide +kernel
theorem dX0_first_7 : decode cX0_first 7 = .ok (.if_icmp .ge 36, 3) := by decide +kernel
theorem dX0_first_10 : decode cX0_first 10 = .ok (.iload_n 3, 1) := by decide +kernel
theorem dX0_first_11 : decode cX0_first 11 = .ok (.bipush 100, 2) := by decide +kernel
theorem dX0_first_13 : decode cX0_first 13 = .ok (.if_icmp .ge 30, 3) := by decide +kernel
theorem dX0_first_16 : decode cX0_first 16 = .ok (.aload_n 1, 1) := by decide +kernel
theorem dX0_first_17 : decode cX0_first 17 = .ok (.aload_n 0, 1) := by decide +kernel
theorem dX0_first_18 : decode cX0_first 18 = .ok (.getfield 9, 3) := by decide +kernel
theorem dX0_first_21 : decode cX0_first 21 = .ok (.iload_n 3, 1) := by decide +kernel
theorem dX0_first_22 : decode cX0_first 22 = .ok (.iaload, 1) := by decide +kernel
theorem dX0_first_23 : decode cX0_first 23 = .ok (.invokevirtual 68, 3) := by decide +kernel
theorem dX0_first_26 : decode cX0_first 26 = .ok (.iload_n 2, 1) := by decide +kernel
theorem dX0_first_27 : decode cX0_first 27 = .ok (.if_icmp .lt 10, 3) := by decide +kernel
theorem dX0_first_30 : decode cX0_first 30 = .ok (.aload_n 0, 1) := by decide +kernel
theorem dX0_first_31 : decode cX0_first 31 = .ok (.getfield 9, 3) := by decide +kernel
theorem dX0_first_34 : decode cX0_first 34 = .ok (.iload_n 3, 1) := by decide +kernel
theorem dX0_first_35 : decode cX0_first 35 = .ok (.iaload, 1) := by decide +kernel
theorem dX0_first_36 : decode cX0_first 36 = .ok (.ireturn, 1) := by decide +kernel
theorem dX0_first_37 : decode cX0_first 37 = .ok (.iinc 3 1, 3) := by decide +kernel
theorem dX0_first_40 : decode cX0_first 40 = .ok (.goto (-38), 3) := by decide +kernel
theorem dX0_first_43 : decode cX0_first 43 = .ok (.iconst (-1), 1) := by decide +kernel
theorem dX0_first_44 : decode cX0_first 44 = .ok (.ireturn, 1) := by decide +kernel
theorem dX0_wordsTo_0 : decode cX0_wordsTo 0 = .ok (.iload_n 1, 1) := by decide +kernel
theorem dX0_wordsTo_1 : decode cX0_wordsTo 1 = .ok (.bipush 100, 2) := by decide +kernel
theorem dX0_wordsTo_3 : decode cX0_wordsTo 3 = .ok (.invokestatic 64, 3) := by decide +kernel
theorem dX0_wordsTo_6 : decode cX0_wordsTo 6 = .ok (.ifCond .eq 12, 3) := by decide +kernel
theorem dX0_wordsTo_9 : decode cX0_wordsTo 9 = .ok (.aload_n 0, 1) := by decide +kernel
theorem dX0_wordsTo_10 : decode cX0_wordsTo 10 = .ok (.getfield 15, 3) := by decide +kernel
theorem dX0_wordsTo_13 : decode cX0_wordsTo 13 = .ok (.iload_n 1, 1) := by decide +kernel
theorem dX0_wordsTo_14 : decode cX0_wordsTo 14 = .ok (.iaload, 1) := by decide +kernel
theorem dX0_wordsTo_15 : decode cX0_wordsTo 15 = .ok (.goto 4, 3) := by decide +kernel
theorem dX0_wordsTo_18 : decode cX0_wordsTo 18 = .ok (.iconst (-1), 1) := by decide +kernel
theorem dX0_wordsTo_19 : decode cX0_wordsTo 19 = .ok (.ireturn, 1) := by decide +kernel
theorem dX0_rowTo_0 : decode cX0_rowTo 0 = .ok (.aload_n 0, 1) := by decide +kernel
theorem dX0_rowTo_1 : decode cX0_rowTo 1 = .ok (.iload_n 1, 1) := by decide +kernel
theorem dX0_rowTo_2 : decode cX0_rowTo 2 = .ok (.invokevirtual 71, 3) := by decide +kernel
theorem dX0_rowTo_5 : decode cX0_rowTo 5 = .ok (.istore_n 2, 1) := by decide +kernel
theorem dX0_rowTo_6 : decode cX0_rowTo 6 = .ok (.iload_n 2, 1) := by decide +kernel
theorem dX0_rowTo_7 : decode cX0_rowTo 7 = .ok (.iconst (-1), 1) := by decide +kernel
theorem dX0_rowTo_8 : decode cX0_rowTo 8 = .ok (.if_icmp .eq 9, 3) := by decide +kernel
theorem dX0_rowTo_11 : decode cX0_rowTo 11 = .ok (.iload_n 2, 1) := by decide +kernel
theorem dX0_rowTo_12 : decode cX0_rowTo 12 = .ok (.bipush 9, 2) := by decide +kernel
theorem dX0_rowTo_14 : decode cX0_rowTo 14 = .ok (.if_icmp .le 5, 3) := by decide +kernel
theorem dX0_rowTo_17 : decode cX0_rowTo 17 = .ok (.iconst (-1), 1) := by decide +kernel
theorem dX0_rowTo_18 : decode cX0_rowTo 18 = .ok (.ireturn, 1) := by decide +kernel
theorem dX0_rowTo_19 : decode cX0_rowTo 19 = .ok (.iconst 0, 1) := by decide +kernel
theorem dX0_rowTo_20 : decode cX0_rowTo 20 = .ok (.istore_n 3, 1) := by decide +kernel
theorem dX0_rowTo_21 : decode cX0_rowTo 21 = .ok (.iconst 1, 1) := by decide +kernel
theorem dX0_rowTo_22 : decode cX0_rowTo 22 = .ok (.istore 4, 2) := by decide +kernel
theorem dX0_rowTo_24 : decode cX0_rowTo 24 = .ok (.iload_n 1, 1) := by decide +kernel
theorem dX0_rowTo_25 : decode cX0_rowTo 25 = .ok (.istore 5, 2) := by decide +kernel
theorem dX0_rowTo_27 : decode cX0_rowTo 27 = .ok (.iconst 0, 1) := by decide +kernel
theorem dX0_rowTo_28 : decode cX0_rowTo 28 = .ok (.istore 6, 2) := by decide +kernel
theorem dX0_rowTo_30 : decode cX0_rowTo 30 = .ok (.iload 6, 2) := by decide +kernel
theorem dX0_rowTo_32 : decode cX0_rowTo 32 = .ok (.iload_n 2, 1) := by decide +kernel
theorem dX0_rowTo_33 : decode cX0_rowTo 33 = .ok (.if_icmp .ge 50, 3) := by decide +kernel
theorem dX0_rowTo_36 : decode cX0_rowTo 36 = .ok (.iload 5, 2) := by decide +kernel
theorem dX0_rowTo_38 : decode cX0_rowTo 38 = .ok (.bipush 100, 2) := by decide +kernel
theorem dX0_rowTo_40 : decode cX0_rowTo 40 = .ok (.invokestatic 64, 3) := by decide +kernel
theorem dX0_rowTo_43 : decode cX0_rowTo 43 = .ok (.ifCond .eq 40, 3) := by decide +kernel
theorem dX0_rowTo_46 : decode cX0_rowTo 46 = .ok (.iload_n 3, 1) := by decide +kernel
theorem dX0_rowTo_47 : decode cX0_rowTo 47 = .ok (.aload_n 0, 1) := by decide +kernel
theorem dX0_rowTo_48 : decode cX0_rowTo 48 = .ok (.getfield 21, 3) := by decide +kernel
theorem dX0_rowTo_51 : decode cX0_rowTo 51 = .ok (.iload 5, 2) := by decide +kernel
theorem dX0_rowTo_53 : decode cX0_rowTo 53 = .ok (.iaload, 1) := by decide +kernel
theorem dX0_rowTo_54 : decode cX0_rowTo 54 = .ok (.iconst 1, 1) := by decide +kernel
theorem dX0_rowTo_55 : decode cX0_rowTo 55 = .ok (.iadd, 1) := by decide +kernel
theorem dX0_rowTo_56 : decode cX0_rowTo 56 = .ok (.iload 4, 2) := by decide +kernel
theorem dX0_rowTo_58 : decode cX0_rowTo 58 = .ok (.imul, 1) := by decide +kernel
theorem dX0_rowTo_59 : decode cX0_rowTo 59 = .ok (.iadd, 1) := by decide +kernel
theorem dX0_rowTo_60 : decode cX0_rowTo 60 = .ok (.istore_n 3, 1) := by decide +kernel
theorem dX0_rowTo_61 : decode cX0_rowTo 61 = .ok (.iload 4, 2) := by decide +kernel
theorem dX0_rowTo_63 : decode cX0_rowTo 63 = .ok (.bipush 10, 2) := by decide +kernel
theorem dX0_rowTo_65 : decode cX0_rowTo 65 = .ok (.imul, 1) := by decide +kernel
theorem dX0_rowTo_66 : decode cX0_rowTo 66 = .ok (.istore 4, 2) := by decide +kernel
theorem dX0_rowTo_68 : decode cX0_rowTo 68 = .ok (.aload_n 0, 1) := by decide +kernel
theorem dX0_rowTo_69 : decode cX0_rowTo 69 = .ok (.getfield 18, 3) := by decide +kernel
theorem dX0_rowTo_72 : decode cX0_rowTo 72 = .ok (.iload 5, 2) := by decide +kernel
theorem dX0_rowTo_74 : decode cX0_rowTo 74 = .ok (.iaload, 1) := by decide +kernel
theorem dX0_rowTo_75 : decode cX0_rowTo 75 = .ok (.istore 5, 2) := by decide +kernel
theorem dX0_rowTo_77 : decode cX0_rowTo 77 = .ok (.iinc 6 1, 3) := by decide +kernel
theorem dX0_rowTo_80 : decode cX0_rowTo 80 = .ok (.goto (-50), 3) := by decide +kernel
theorem dX0_rowTo_83 : decode cX0_rowTo 83 = .ok (.iload_n 3, 1) := by decide +kernel
theorem dX0_rowTo_84 : decode cX0_rowTo 84 = .ok (.ireturn, 1) := by decide +kernel
theorem dX0_least_0 : decode cX0_least 0 = .ok (.bipush 100, 2) := by decide +kernel
theorem dX0_least_2 : decode cX0_least 2 = .ok (.istore_n 1, 1) := by decide +kernel
theorem dX0_least_3 : decode cX0_least 3 = .ok (.iconst 0, 1) := by decide +kernel
theorem dX0_least_4 : decode cX0_least 4 = .ok (.istore_n 2, 1) := by decide +kernel
theorem dX0_least_5 : decode cX0_least 5 = .ok (.iload_n 2, 1) := by decide +kernel
theorem dX0_least_6 : decode cX0_least 6 = .ok (.aload_n 0, 1) := by decide +kernel
theorem dX0_least_7 : decode cX0_least 7 = .ok (.getfield 46, 3) := by decide +kernel
theorem dX0_least_10 : decode cX0_least 10 = .ok (.if_icmp .ge 26, 3) := by decide +kernel
theorem dX0_least_13 : decode cX0_least 13 = .ok (.iload_n 2, 1) := by decide +kernel
theorem dX0_least_14 : decode cX0_least 14 = .ok (.bipush 100, 2) := by decide +kernel
theorem dX0_least_16 : decode cX0_least 16 = .ok (.if_icmp .ge 20, 3) := by decide +kernel
theorem dX0_least_19 : decode cX0_least 19 = .ok (.iload_n 1, 1) := by decide +kernel
theorem dX0_least_20 : decode cX0_least 20 = .ok (.aload_n 0, 1) := by decide +kernel
theorem dX0_least_21 : decode cX0_least 21 = .ok (.getfield 9, 3) := by decide +kernel
theorem dX0_least_24 : decode cX0_least 24 = .ok (.iload_n 2, 1) := by decide +kernel
theorem dX0_least_25 : decode cX0_least 25 = .ok (.iaload, 1) := by decide +kernel
theorem dX0_least_26 : decode cX0_least 26 = .ok (.invokestatic 74, 3) := by decide +kernel
theorem dX0_least_29 : decode cX0_least 29 = .ok (.istore_n 1, 1) := by decide +kernel
theorem dX0_least_30 : decode cX0_least 30 = .ok (.iinc 2 1, 3) := by decide +kernel
theorem dX0_least_33 : decode cX0_least 33 = .ok (.goto (-28), 3) := by decide +kernel
theorem dX0_least_36 : decode cX0_least 36 = .ok (.iload_n 1, 1) := by decide +kernel
theorem dX0_least_37 : decode cX0_least 37 = .ok (.ireturn, 1) := by decide +kernel
theorem dX0_most_0 : decode cX0_most 0 = .ok (.iconst 0, 1) := by decide +kernel
theorem dX0_most_1 : decode cX0_most 1 = .ok (.istore_n 1, 1) := by decide +kernel
theorem dX0_most_2 : decode cX0_most 2 = .ok (.iconst 0, 1) := by decide +kernel
theorem dX0_most_3 : decode cX0_most 3 = .ok (.istore_n 2, 1) := by decide +kernel
theorem dX0_most_4 : decode cX0_most 4 = .ok (.iload_n 2, 1) := by decide +kernel
theorem dX0_most_5 : decode cX0_most 5 = .ok (.aload_n 0, 1) := by decide +kernel
theorem dX0_most_6 : decode cX0_most 6 = .ok (.getfield 46, 3) := by decide +kernel
theorem dX0_most_9 : decode cX0_most 9 = .ok (.if_icmp .ge 26, 3) := by decide +kernel
theorem dX0_most_12 : decode cX0_most 12 = .ok (.iload_n 2, 1) := by decide +kernel
theorem dX0_most_13 : decode cX0_most 13 = .ok (.bipush 100, 2) := by decide +kernel
theorem dX0_most_15 : decode cX0_most 15 = .ok (.if_icmp .ge 20, 3) := by decide +kernel
theorem dX0_most_18 : decode cX0_most 18 = .ok (.iload_n 1, 1) := by decide +kernel
theorem dX0_most_19 : decode cX0_most 19 = .ok (.aload_n 0, 1) := by decide +kernel
theorem dX0_most_20 : decode cX0_most 20 = .ok (.getfield 9, 3) := by decide +kernel
theorem dX0_most_23 : decode cX0_most 23 = .ok (.iload_n 2, 1) := by decide +kernel
theorem dX0_most_24 : decode cX0_most 24 = .ok (.iaload, 1) := by decide +kernel
theorem dX0_most_25 : decode cX0_most 25 = .ok (.invokestatic 79, 3) := by decide +kernel
theorem dX0_most_28 : decode cX0_most 28 = .ok (.istore_n 1, 1) := by decide +kernel
theorem dX0_most_29 : decode cX0_most 29 = .ok (.iinc 2 1, 3) := by decide +kernel
theorem dX0_most_32 : decode cX0_most 32 = .ok (.goto (-28), 3) := by decide +kernel
theorem dX0_most_35 : decode cX0_most 35 = .ok (.iload_n 1, 1) := by decide +kernel
theorem dX0_most_36 : decode cX0_most 36 = .ok (.ireturn, 1) := by decide +kernel
theorem dX0_furthest_0 : decode cX0_furthest 0 = .ok (.iconst 0, 1) := by decide +kernel
theorem dX0_furthest_1 : decode cX0_furthest 1 = .ok (.istore_n 2, 1) := by decide +kernel
theorem dX0_furthest_2 : decode cX0_furthest 2 = .ok (.iconst 0, 1) := by decide +kernel
theorem dX0_furthest_3 : decode cX0_furthest 3 = .ok (.istore_n 3, 1) := by decide +kernel
theorem dX0_furthest_4 : decode cX0_furthest 4 = .ok (.iload_n 3, 1) := by decide +kernel
theorem dX0_furthest_5 : decode cX0_furthest 5 = .ok (.aload_n 0, 1) := by decide +kernel
theorem dX0_furthest_6 : decode cX0_furthest 6 = .ok (.getfield 46, 3) := by decide +kernel
theorem dX0_furthest_9 : decode cX0_furthest 9 = .ok (.if_icmp .ge 30, 3) := by decide +kernel
theorem dX0_furthest_12 : decode cX0_furthest 12 = .ok (.iload_n 3, 1) := by decide +kernel
theorem dX0_furthest_13 : decode cX0_furthest 13 = .ok (.bipush 100, 2) := by decide +kernel
theorem dX0_furthest_15 : decode cX0_furthest 15 = .ok (.if_icmp .ge 24, 3) := by decide +kernel
theorem dX0_furthest_18 : decode cX0_furthest 18 = .ok (.iload_n 2, 1) := by decide +kernel
theorem dX0_furthest_19 : decode cX0_furthest 19 = .ok (.aload_n 1, 1) := by decide +kernel
theorem dX0_furthest_20 : decode cX0_furthest 20 = .ok (.aload_n 0, 1) := by decide +kernel
theorem dX0_furthest_21 : decode cX0_furthest 21 = .ok (.getfield 9, 3) := by decide +kernel
theorem dX0_furthest_24 : decode cX0_furthest 24 = .ok (.iload_n 3, 1) := by decide +kernel
theorem dX0_furthest_25 : decode cX0_furthest 25 = .ok (.iaload, 1) := by decide +kernel
theorem dX0_furthest_26 : decode cX0_furthest 26 = .ok (.invokevirtual 68, 3) := by decide +kernel
theorem dX0_furthest_29 : decode cX0_furthest 29 = .ok (.invokestatic 79, 3) := by decide +kernel
theorem dX0_furthest_32 : decode cX0_furthest 32 = .ok (.istore_n 2, 1) := by decide +kernel
theorem dX0_furthest_33 : decode cX0_furthest 33 = .ok (.iinc 3 1, 3) := by decide +kernel
theorem dX0_furthest_36 : decode cX0_furthest 36 = .ok (.goto (-32), 3) := by decide +kernel
theorem dX0_furthest_39 : decode cX0_furthest 39 = .ok (.iload_n 2, 1) := by decide +kernel
theorem dX0_furthest_40 : decode cX0_furthest 40 = .ok (.ireturn, 1) := by decide +kernel
theorem dX0_rowsTo_0 : decode cX0_rowsTo 0 = .ok (.aload_n 0, 1) := by decide +kernel
theorem dX0_rowsTo_1 : decode cX0_rowsTo 1 = .ok (.getfield 27, 3) := by decide +kernel
theorem dX0_rowsTo_4 : decode cX0_rowsTo 4 = .ok (.lconst 0, 1) := by decide +kernel
theorem dX0_rowsTo_5 : decode cX0_rowsTo 5 = .ok (.invokestatic 82, 3) := by decide +kernel
theorem dX0_rowsTo_8 : decode cX0_rowsTo 8 = .ok (.aload_n 0, 1) := by decide +kernel
theorem dX0_rowsTo_9 : decode cX0_rowsTo 9 = .ok (.getfield 27, 3) := by decide +kernel
theorem dX0_rowsTo_12 : decode cX0_rowsTo 12 = .ok (.aload_n 0, 1) := by decide +kernel
theorem dX0_rowsTo_13 : decode cX0_rowsTo 13 = .ok (.getfield 9, 3) := by decide +kernel
theorem dX0_rowsTo_16 : decode cX0_rowsTo 16 = .ok (.iconst 0, 1) := by decide +kernel
theorem dX0_rowsTo_17 : decode cX0_rowsTo 17 = .ok (.iaload, 1) := by decide +kernel
theorem dX0_rowsTo_18 : decode cX0_rowsTo 18 = .ok (.lconst 1, 1) := by decide +kernel
theorem dX0_rowsTo_19 : decode cX0_rowsTo 19 = .ok (.lastore, 1) := by decide +kernel
theorem dX0_rowsTo_20 : decode cX0_rowsTo 20 = .ok (.iconst 0, 1) := by decide +kernel
theorem dX0_rowsTo_21 : decode cX0_rowsTo 21 = .ok (.istore 4, 2) := by decide +kernel
theorem dX0_rowsTo_23 : decode cX0_rowsTo 23 = .ok (.iload 4, 2) := by decide +kernel
theorem dX0_rowsTo_25 : decode cX0_rowsTo 25 = .ok (.iload_n 3, 1) := by decide +kernel
theorem dX0_rowsTo_26 : decode cX0_rowsTo 26 = .ok (.if_icmp .ge 13, 3) := by decide +kernel
theorem dX0_rowsTo_29 : decode cX0_rowsTo 29 = .ok (.aload_n 0, 1) := by decide +kernel
theorem dX0_rowsTo_30 : decode cX0_rowsTo 30 = .ok (.invokevirtual 85, 3) := by decide +kernel
theorem dX0_rowsTo_33 : decode cX0_rowsTo 33 = .ok (.iinc 4 1, 3) := by decide +kernel
theorem dX0_rowsTo_36 : decode cX0_rowsTo 36 = .ok (.goto (-13), 3) := by decide +kernel
theorem dX0_rowsTo_39 : decode cX0_rowsTo 39 = .ok (.lconst 0, 1) := by decide +kernel
theorem dX0_rowsTo_40 : decode cX0_rowsTo 40 = .ok (.lstore 4, 2) := by decide +kernel
theorem dX0_rowsTo_42 : decode cX0_rowsTo 42 = .ok (.iconst 0, 1) := by decide +kernel
theorem dX0_rowsTo_43 : decode cX0_rowsTo 43 = .ok (.istore 6, 2) := by decide +kernel
theorem dX0_rowsTo_45 : decode cX0_rowsTo 45 = .ok (.iload 6, 2) := by decide +kernel
theorem dX0_rowsTo_47 : decode cX0_rowsTo 47 = .ok (.aload_n 0, 1) := by decide +kernel
theorem dX0_rowsTo_48 : decode cX0_rowsTo 48 = .ok (.getfield 46, 3) := by decide +kernel
theorem dX0_rowsTo_51 : decode cX0_rowsTo 51 = .ok (.if_icmp .ge 52, 3) := by decide +kernel
theorem dX0_rowsTo_54 : decode cX0_rowsTo 54 = .ok (.iload 6, 2) := by decide +kernel
theorem dX0_rowsTo_56 : decode cX0_rowsTo 56 = .ok (.bipush 100, 2) := by decide +kernel
theorem dX0_rowsTo_58 : decode cX0_rowsTo 58 = .ok (.if_icmp .ge 45, 3) := by decide +kernel
theorem dX0_rowsTo_61 : decode cX0_rowsTo 61 = .ok (.lload 4, 2) := by decide +kernel
theorem dX0_rowsTo_63 : decode cX0_rowsTo 63 = .ok (.aload_n 1, 1) := by decide +kernel
theorem dX0_rowsTo_64 : decode cX0_rowsTo 64 = .ok (.aload_n 0, 1) := by decide +kernel
theorem dX0_rowsTo_65 : decode cX0_rowsTo 65 = .ok (.getfield 9, 3) := by decide +kernel
theorem dX0_rowsTo_68 : decode cX0_rowsTo 68 = .ok (.iload 6, 2) := by decide +kernel
theorem dX0_rowsTo_70 : decode cX0_rowsTo 70 = .ok (.iaload, 1) := by decide +kernel
theorem dX0_rowsTo_71 : decode cX0_rowsTo 71 = .ok (.invokevirtual 68, 3) := by decide +kernel
theorem dX0_rowsTo_74 : decode cX0_rowsTo 74 = .ok (.iload_n 2, 1) := by decide +kernel
theorem dX0_rowsTo_75 : decode cX0_rowsTo 75 = .ok (.if_icmp .lt 18, 3) := by decide +kernel
theorem dX0_rowsTo_78 : decode cX0_rowsTo 78 = .ok (.aload_n 0, 1) := by decide +kernel
theorem dX0_rowsTo_79 : decode cX0_rowsTo 79 = .ok (.getfield 27, 3) := by decide +kernel
theorem dX0_rowsTo_82 : decode cX0_rowsTo 82 = .ok (.aload_n 0, 1) := by decide +kernel
theorem dX0_rowsTo_83 : decode cX0_rowsTo 83 = .ok (.getfield 9, 3) := by decide +kernel
theorem dX0_rowsTo_86 : decode cX0_rowsTo 86 = .ok (.iload 6, 2) := by decide +kernel
theorem dX0_rowsTo_88 : decode cX0_rowsTo 88 = .ok (.iaload, 1) := by decide +kernel
theorem dX0_rowsTo_89 : decode cX0_rowsTo 89 = .ok (.laload, 1) := by decide +kernel
theorem dX0_rowsTo_90 : decode cX0_rowsTo 90 = .ok (.goto 4, 3) := by decide +kernel
theorem dX0_rowsTo_93 : decode cX0_rowsTo 93 = .ok (.lconst 0, 1) := by decide +kernel
theorem dX0_rowsTo_94 : decode cX0_rowsTo 94 = .ok (.ladd, 1) := by decide +kernel
theorem dX0_rowsTo_95 : decode cX0_rowsTo 95 = .ok (.lstore 4, 2) := by decide +kernel
theorem dX0_rowsTo_97 : decode cX0_rowsTo 97 = .ok (.iinc 6 1, 3) := by decide +kernel
theorem dX0_rowsTo_100 : decode cX0_rowsTo 100 = .ok (.goto (-55), 3) := by decide +kernel
theorem dX0_rowsTo_103 : decode cX0_rowsTo 103 = .ok (.lload 4, 2) := by decide +kernel
theorem dX0_rowsTo_105 : decode cX0_rowsTo 105 = .ok (.lreturn, 1) := by decide +kernel
theorem dX0_sayOneMore_0 : decode cX0_sayOneMore 0 = .ok (.aload_n 0, 1) := by decide +kernel
theorem dX0_sayOneMore_1 : decode cX0_sayOneMore 1 = .ok (.getfield 31, 3) := by decide +kernel
theorem dX0_sayOneMore_4 : decode cX0_sayOneMore 4 = .ok (.lconst 0, 1) := by decide +kernel
theorem dX0_sayOneMore_5 : decode cX0_sayOneMore 5 = .ok (.invokestatic 82, 3) := by decide +kernel
theorem dX0_sayOneMore_8 : decode cX0_sayOneMore 8 = .ok (.iconst 0, 1) := by decide +kernel
theorem dX0_sayOneMore_9 : decode cX0_sayOneMore 9 = .ok (.istore_n 1, 1) := by decide +kernel
theorem dX0_sayOneMore_10 : decode cX0_sayOneMore 10 = .ok (.iload_n 1, 1) := by decide +kernel
theorem dX0_sayOneMore_11 : decode cX0_sayOneMore 11 = .ok (.aload_n 0, 1) := by decide +kernel
theorem dX0_sayOneMore_12 : decode cX0_sayOneMore 12 = .ok (.getfield 46, 3) := by decide +kernel
theorem dX0_sayOneMore_15 : decode cX0_sayOneMore 15 = .ok (.if_icmp .ge 75, 3) := by decide +kernel
theorem dX0_sayOneMore_18 : decode cX0_sayOneMore 18 = .ok (.iload_n 1, 1) := by decide +kernel
theorem dX0_sayOneMore_19 : decode cX0_sayOneMore 19 = .ok (.bipush 100, 2) := by decide +kernel
theorem dX0_sayOneMore_21 : decode cX0_sayOneMore 21 = .ok (.if_icmp .ge 69, 3) := by decide +kernel
theorem dX0_sayOneMore_24 : decode cX0_sayOneMore 24 = .ok (.aload_n 0, 1) := by decide +kernel
theorem dX0_sayOneMore_25 : decode cX0_sayOneMore 25 = .ok (.getfield 9, 3) := by decide +kernel
theorem dX0_sayOneMore_28 : decode cX0_sayOneMore 28 = .ok (.iload_n 1, 1) := by decide +kernel
theorem dX0_sayOneMore_29 : decode cX0_sayOneMore 29 = .ok (.iaload, 1) := by decide +kernel
theorem dX0_sayOneMore_30 : decode cX0_sayOneMore 30 = .ok (.istore_n 2, 1) := by decide +kernel
theorem dX0_sayOneMore_31 : decode cX0_sayOneMore 31 = .ok (.iconst 0, 1) := by decide +kernel
theorem dX0_sayOneMore_32 : decode cX0_sayOneMore 32 = .ok (.istore_n 3, 1) := by decide +kernel
theorem dX0_sayOneMore_33 : decode cX0_sayOneMore 33 = .ok (.iload_n 3, 1) := by decide +kernel
theorem dX0_sayOneMore_34 : decode cX0_sayOneMore 34 = .ok (.bipush 6, 2) := by decide +kernel
theorem dX0_sayOneMore_36 : decode cX0_sayOneMore 36 = .ok (.if_icmp .ge 48, 3) := by decide +kernel
theorem dX0_sayOneMore_39 : decode cX0_sayOneMore 39 = .ok (.aload_n 0, 1) := by decide +kernel
theorem dX0_sayOneMore_40 : decode cX0_sayOneMore 40 = .ok (.getfield 24, 3) := by decide +kernel
theorem dX0_sayOneMore_43 : decode cX0_sayOneMore 43 = .ok (.iload_n 2, 1) := by decide +kernel
theorem dX0_sayOneMore_44 : decode cX0_sayOneMore 44 = .ok (.bipush 6, 2) := by decide +kernel
theorem dX0_sayOneMore_46 : decode cX0_sayOneMore 46 = .ok (.imul, 1) := by decide +kernel
theorem dX0_sayOneMore_47 : decode cX0_sayOneMore 47 = .ok (.iload_n 3, 1) := by decide +kernel
theorem dX0_sayOneMore_48 : decode cX0_sayOneMore 48 = .ok (.iadd, 1) := by decide +kernel
theorem dX0_sayOneMore_49 : decode cX0_sayOneMore 49 = .ok (.iaload, 1) := by decide +kernel
theorem dX0_sayOneMore_50 : decode cX0_sayOneMore 50 = .ok (.istore 4, 2) := by decide +kernel
theorem dX0_sayOneMore_52 : decode cX0_sayOneMore 52 = .ok (.iload 4, 2) := by decide +kernel
theorem dX0_sayOneMore_54 : decode cX0_sayOneMore 54 = .ok (.bipush 100, 2) := by decide +kernel
theorem dX0_sayOneMore_56 : decode cX0_sayOneMore 56 = .ok (.invokestatic 64, 3) := by decide +kernel
theorem dX0_sayOneMore_59 : decode cX0_sayOneMore 59 = .ok (.ifCond .eq 19, 3) := by decide +kernel
theorem dX0_sayOneMore_62 : decode cX0_sayOneMore 62 = .ok (.aload_n 0, 1) := by decide +kernel
theorem dX0_sayOneMore_63 : decode cX0_sayOneMore 63 = .ok (.getfield 31, 3) := by decide +kernel
theorem dX0_sayOneMore_66 : decode cX0_sayOneMore 66 = .ok (.iload 4, 2) := by decide +kernel
theorem dX0_sayOneMore_68 : decode cX0_sayOneMore 68 = .ok (.dup2, 1) := by decide +kernel
theorem dX0_sayOneMore_69 : decode cX0_sayOneMore 69 = .ok (.laload, 1) := by decide +kernel
theorem dX0_sayOneMore_70 : decode cX0_sayOneMore 70 = .ok (.aload_n 0, 1) := by decide +kernel
theorem dX0_sayOneMore_71 : decode cX0_sayOneMore 71 = .ok (.getfield 27, 3) := by decide +kernel
theorem dX0_sayOneMore_74 : decode cX0_sayOneMore 74 = .ok (.iload_n 2, 1) := by decide +kernel
theorem dX0_sayOneMore_75 : decode cX0_sayOneMore 75 = .ok (.laload, 1) := by decide +kernel
theorem dX0_sayOneMore_76 : decode cX0_sayOneMore 76 = .ok (.ladd, 1) := by decide +kernel
theorem dX0_sayOneMore_77 : decode cX0_sayOneMore 77 = .ok (.lastore, 1) := by decide +kernel
theorem dX0_sayOneMore_78 : decode cX0_sayOneMore 78 = .ok (.iinc 3 1, 3) := by decide +kernel
theorem dX0_sayOneMore_81 : decode cX0_sayOneMore 81 = .ok (.goto (-48), 3) := by decide +kernel
theorem dX0_sayOneMore_84 : decode cX0_sayOneMore 84 = .ok (.iinc 1 1, 3) := by decide +kernel
theorem dX0_sayOneMore_87 : decode cX0_sayOneMore 87 = .ok (.goto (-77), 3) := by decide +kernel
theorem dX0_sayOneMore_90 : decode cX0_sayOneMore 90 = .ok (.aload_n 0, 1) := by decide +kernel
theorem dX0_sayOneMore_91 : decode cX0_sayOneMore 91 = .ok (.getfield 31, 3) := by decide +kernel
theorem dX0_sayOneMore_94 : decode cX0_sayOneMore 94 = .ok (.iconst 0, 1) := by decide +kernel
theorem dX0_sayOneMore_95 : decode cX0_sayOneMore 95 = .ok (.aload_n 0, 1) := by decide +kernel
theorem dX0_sayOneMore_96 : decode cX0_sayOneMore 96 = .ok (.getfield 27, 3) := by decide +kernel
theorem dX0_sayOneMore_99 : decode cX0_sayOneMore 99 = .ok (.iconst 0, 1) := by decide +kernel
theorem dX0_sayOneMore_100 : decode cX0_sayOneMore 100 = .ok (.bipush 100, 2) := by decide +kernel
theorem dX0_sayOneMore_102 : decode cX0_sayOneMore 102 = .ok (.invokestatic 88, 3) := by decide +kernel
theorem dX0_sayOneMore_105 : decode cX0_sayOneMore 105 = .ok (.return_, 1) := by decide +kernel
theorem dX1_init_0 : decode cX1_init 0 = .ok (.aload_n 0, 1) := by decide +kernel
theorem dX1_init_1 : decode cX1_init 1 = .ok (.invokespecial 3, 3) := by decide +kernel
theorem dX1_init_4 : decode cX1_init 4 = .ok (.aload_n 0, 1) := by decide +kernel
theorem dX1_init_5 : decode cX1_init 5 = .ok (.sipush 160, 3) := by decide +kernel
theorem dX1_init_8 : decode cX1_init 8 = .ok (.newarray .int, 2) := by decide +kernel
theorem dX1_init_10 : decode cX1_init 10 = .ok (.putfield 9, 3) := by decide +kernel
theorem dX1_init_13 : decode cX1_init 13 = .ok (.aload_n 0, 1) := by decide +kernel
theorem dX1_init_14 : decode cX1_init 14 = .ok (.aload_n 1, 1) := by decide +kernel
theorem dX1_init_15 : decode cX1_init 15 = .ok (.putfield 15, 3) := by decide +kernel
theorem dX1_init_18 : decode cX1_init 18 = .ok (.return_, 1) := by decide +kernel
theorem dX1_put_0 : decode cX1_put 0 = .ok (.aload_n 0, 1) := by decide +kernel
theorem dX1_put_1 : decode cX1_put 1 = .ok (.getfield 19, 3) := by decide +kernel
theorem dX1_put_4 : decode cX1_put 4 = .ok (.sipush 160, 3) := by decide +kernel
theorem dX1_put_7 : decode cX1_put 7 = .ok (.invokestatic 23, 3) := by decide +kernel
theorem dX1_put_10 : decode cX1_put 10 = .ok (.ifCond .ne 5, 3) := by decide +kernel
theorem dX1_put_13 : decode cX1_put 13 = .ok (.iconst 0, 1) := by decide +kernel
theorem dX1_put_14 : decode cX1_put 14 = .ok (.ireturn, 1) := by decide +kernel
theorem dX1_put_15 : decode cX1_put 15 = .ok (.aload_n 0, 1) := by decide +kernel
theorem dX1_put_16 : decode cX1_put 16 = .ok (.getfield 9, 3) := by decide +kernel
theorem dX1_put_19 : decode cX1_put 19 = .ok (.aload_n 0, 1) := by decide +kernel
theorem dX1_put_20 : decode cX1_put 20 = .ok (.getfield 19, 3) := by decide +kernel
theorem dX1_put_23 : decode cX1_put 23 = .ok (.iload_n 1, 1) := by decide +kernel
theorem dX1_put_24 : decode cX1_put 24 = .ok (.iastore, 1) := by decide +kernel
theorem dX1_put_25 : decode cX1_put 25 = .ok (.aload_n 0, 1) := by decide +kernel
theorem dX1_put_26 : decode cX1_put 26 = .ok (.dup, 1) := by decide +kernel
theorem dX1_put_27 : decode cX1_put 27 = .ok (.getfield 19, 3) := by decide +kernel
theorem dX1_put_30 : decode cX1_put 30 = .ok (.iconst 1, 1) := by decide +kernel
theorem dX1_put_31 : decode cX1_put 31 = .ok (.iadd, 1) := by decide +kernel
theorem dX1_put_32 : decode cX1_put 32 = .ok (.putfield 19, 3) := by decide +kernel
theorem dX1_put_35 : decode cX1_put 35 = .ok (.iconst 1, 1) := by decide +kernel
theorem dX1_put_36 : decode cX1_put 36 = .ok (.ireturn, 1) := by decide +kernel
theorem dX1_read_0 : decode cX1_read 0 = .ok (.aload_n 0, 1) := by decide +kernel
theorem dX1_read_1 : decode cX1_read 1 = .ok (.iconst 0, 1) := by decide +kernel
theorem dX1_read_2 : decode cX1_read 2 = .ok (.putfield 27, 3) := by decide +kernel
theorem dX1_read_5 : decode cX1_read 5 = .ok (.aload_n 0, 1) := by decide +kernel
theorem dX1_read_6 : decode cX1_read 6 = .ok (.iconst (-1), 1) := by decide +kernel
theorem dX1_read_7 : decode cX1_read 7 = .ok (.putfield 30, 3) := by decide +kernel
theorem dX1_read_10 : decode cX1_read 10 = .ok (.aload_n 0, 1) := by decide +kernel
theorem dX1_read_11 : decode cX1_read 11 = .ok (.getfield 15, 3) := by decide +kernel
theorem dX1_read_14 : decode cX1_read 14 = .ok (.invokevirtual 33, 3) := by decide +kernel
theorem dX1_read_17 : decode cX1_read 17 = .ok (.aload_n 0, 1) := by decide +kernel
theorem dX1_read_18 : decode cX1_read 18 = .ok (.invokevirtual 38, 3) := by decide +kernel
theorem dX1_read_21 : decode cX1_read 21 = .ok (.iconst 0, 1) := by decide +kernel
theorem dX1_read_22 : decode cX1_read 22 = .ok (.istore_n 1, 1) := by decide +kernel
theorem dX1_read_23 : decode cX1_read 23 = .ok (.iload_n 1, 1) := by decide +kernel
theorem dX1_read_24 : decode cX1_read 24 = .ok (.iconst 3, 1) := by decide +kernel
theorem dX1_read_25 : decode cX1_read 25 = .ok (.if_icmp .ge 37, 3) := by decide +kernel
theorem dX1_read_28 : decode cX1_read 28 = .ok (.aload_n 0, 1) := by decide +kernel
theorem dX1_read_29 : decode cX1_read 29 = .ok (.bipush 6, 2) := by decide +kernel
theorem dX1_read_31 : decode cX1_read 31 = .ok (.iload_n 1, 1) := by decide +kernel
theorem dX1_read_32 : decode cX1_read 32 = .ok (.iadd, 1) := by decide +kernel
theorem dX1_read_33 : decode cX1_read 33 = .ok (.invokevirtual 41, 3) := by decide +kernel
theorem dX1_read_36 : decode cX1_read 36 = .ok (.aload_n 0, 1) := by decide +kernel
theorem dX1_read_37 : decode cX1_read 37 = .ok (.iconst 0, 1) := by decide +kernel
theorem dX1_read_38 : decode cX1_read 38 = .ok (.iconst 0, 1) := by decide +kernel
theorem dX1_read_39 : decode cX1_read 39 = .ok (.invokevirtual 45, 3) := by decide +kernel
theorem dX1_read_42 : decode cX1_read 42 = .ok (.aload_n 0, 1) := by decide +kernel
theorem dX1_read_43 : decode cX1_read 43 = .ok (.bipush 59, 2) := by decide +kernel
theorem dX1_read_45 : decode cX1_read 45 = .ok (.invokevirtual 41, 3) := by decide +kernel
theorem dX1_read_48 : decode cX1_read 48 = .ok (.aload_n 0, 1) := by decide +kernel
theorem dX1_read_49 : decode cX1_read 49 = .ok (.getfield 15, 3) := by decide +kernel
theorem dX1_read_52 : decode cX1_read 52 = .ok (.iload_n 1, 1) := by decide +kernel
theorem dX1_read_53 : decode cX1_read 53 = .ok (.invokevirtual 49, 3) := by decide +kernel
theorem dX1_read_56 : decode cX1_read 56 = .ok (.iinc 1 1, 3) := by decide +kernel
theorem dX1_read_59 : decode cX1_read 59 = .ok (.goto (-36), 3) := by decide +kernel
theorem dX1_read_62 : decode cX1_read 62 = .ok (.aload_n 0, 1) := by decide +kernel
theorem dX1_read_63 : decode cX1_read 63 = .ok (.sipush 301, 3) := by decide +kernel
theorem dX1_read_66 : decode cX1_read 66 = .ok (.invokevirtual 41, 3) := by decide +kernel
theorem dX1_read_69 : decode cX1_read 69 = .ok (.aload_n 0, 1) := by decide +kernel
theorem dX1_read_70 : decode cX1_read 70 = .ok (.iconst 0, 1) := by decide +kernel
theorem dX1_read_71 : decode cX1_read 71 = .ok (.putfield 19, 3) := by decide +kernel
theorem dX1_read_74 : decode cX1_read 74 = .ok (.aload_n 0, 1) := by decide +kernel
theorem dX1_read_75 : decode cX1_read 75 = .ok (.getfield 30, 3) := by decide +kernel
theorem dX1_read_78 : decode cX1_read 78 = .ok (.ireturn, 1) := by decide +kernel
theorem dX1_need_0 : decode cX1_need 0 = .ok (.aload_n 0, 1) := by decide +kernel
theorem dX1_need_1 : decode cX1_need 1 = .ok (.getfield 52, 3) := by decide +kernel
theorem dX1_need_4 : decode cX1_need 4 = .ok (.iload_n 1, 1) := by decide +kernel
theorem dX1_need_5 : decode cX1_need 5 = .ok (.if_icmp .ne 10, 3) := by decide +kernel
theorem dX1_need_8 : decode cX1_need 8 = .ok (.aload_n 0, 1) := by decide +kernel
theorem dX1_need_9 : decode cX1_need 9 = .ok (.invokevirtual 38, 3) := by decide +kernel
theorem dX1_need_12 : decode cX1_need 12 = .ok (.goto 7, 3) := by decide +kernel
theorem dX1_need_15 : decode cX1_need 15 = .ok (.aload_n 0, 1) := by decide +kernel
theorem dX1_need_16 : decode cX1_need 16 = .ok (.invokevirtual 55, 3) := by decide +kernel
theorem dX1_need_19 : decode cX1_need 19 = .ok (.return_, 1) := by decide +kernel
theorem dX1_refuse_0 : decode cX1_refuse 0 = .ok (.aload_n 0, 1) := by decide +kernel
theorem dX1_refuse_1 : decode cX1_refuse 1 = .ok (.getfield 30, 3) := by decide +kernel
theorem dX1_refuse_4 : decode cX1_refuse 4 = .ok (.iconst (-1), 1) := by decide +kernel
theorem dX1_refuse_5 : decode cX1_refuse 5 = .ok (.if_icmp .ne 11, 3) := by decide +kernel
theorem dX1_refuse_8 : decode cX1_refuse 8 = .ok (.aload_n 0, 1) := by decide +kernel
theorem dX1_refuse_9 : decode cX1_refuse 9 = .ok (.aload_n 0, 1) := by decide +kernel
theorem dX1_refuse_10 : decode cX1_refuse 10 = .ok (.getfield 58, 3) := by decide +kernel
theorem dX1_refuse_13 : decode cX1_refuse 13 = .ok (.putfield 30, 3) := by decide +kernel
theorem dX1_refuse_16 : decode cX1_refuse 16 = .ok (.aload_n 0, 1) := by decide +kernel
theorem dX1_refuse_17 : decode cX1_refuse 17 = .ok (.sipush 302, 3) := by decide +kernel
theorem dX1_refuse_20 : decode cX1_refuse 20 = .ok (.putfield 52, 3) := by decide +kernel
theorem dX1_refuse_23 : decode cX1_refuse 23 = .ok (.return_, 1) := by decide +kernel
theorem dX1_chain_0 : decode cX1_chain 0 = .ok (.aload_n 0, 1) := by decide +kernel
theorem dX1_chain_1 : decode cX1_chain 1 = .ok (.iload_n 1, 1) := by decide +kernel
theorem dX1_chain_2 : decode cX1_chain 2 = .ok (.iload_n 2, 1) := by decide +kernel
theorem dX1_chain_3 : decode cX1_chain 3 = .ok (.invokevirtual 61, 3) := by decide +kernel
theorem dX1_chain_6 : decode cX1_chain 6 = .ok (.iconst 0, 1) := by decide +kernel
theorem dX1_chain_7 : decode cX1_chain 7 = .ok (.istore_n 3, 1) := by decide +kernel
theorem dX1_chain_8 : decode cX1_chain 8 = .ok (.iload_n 3, 1) := by decide +kernel
theorem dX1_chain_9 : decode cX1_chain 9 = .ok (.sipush 160, 3) := by decide +kernel
theorem dX1_chain_12 : decode cX1_chain 12 = .ok (.if_icmp .ge 45, 3) := by decide +kernel
theorem dX1_chain_15 : decode cX1_chain 15 = .ok (.aload_n 0, 1) := by decide +kernel
theorem dX1_chain_16 : decode cX1_chain 16 = .ok (.iload_n 1, 1) := by decide +kernel
theorem dX1_chain_17 : decode cX1_chain 17 = .ok (.invokevirtual 64, 3) := by decide +kernel
theorem dX1_chain_20 : decode cX1_chain 20 = .ok (.ifCond .eq 37, 3) := by decide +kernel
theorem dX1_chain_23 : decode cX1_chain 23 = .ok (.aload_n 0, 1) := by decide +kernel
theorem dX1_chain_24 : decode cX1_chain 24 = .ok (.getfield 52, 3) := by decide +kernel
theorem dX1_chain_27 : decode cX1_chain 27 = .ok (.istore 4, 2) := by decide +kernel
theorem dX1_chain_29 : decode cX1_chain 29 = .ok (.aload_n 0, 1) := by decide +kernel
theorem dX1_chain_30 : decode cX1_chain 30 = .ok (.invokevirtual 38, 3) := by decide +kernel
theorem dX1_chain_33 : decode cX1_chain 33 = .ok (.aload_n 0, 1) := by decide +kernel
theorem dX1_chain_34 : decode cX1_chain 34 = .ok (.iload_n 1, 1) := by decide +kernel
theorem dX1_chain_35 : decode cX1_chain 35 = .ok (.iload_n 2, 1) := by decide +kernel
theorem dX1_chain_36 : decode cX1_chain 36 = .ok (.invokevirtual 61, 3) := by decide +kernel
theorem dX1_chain_39 : decode cX1_chain 39 = .ok (.aload_n 0, 1) := by decide +kernel
theorem dX1_chain_40 : decode cX1_chain 40 = .ok (.getfield 15, 3) := by decide +kernel
theorem dX1_chain_43 : decode cX1_chain 43 = .ok (.iload 4, 2) := by decide +kernel
theorem dX1_chain_45 : decode cX1_chain 45 = .ok (.invokestatic 68, 3) := by decide +kernel
theorem dX1_chain_48 : decode cX1_chain 48 = .ok (.invokevirtual 72, 3) := by decide +kernel
theorem dX1_chain_51 : decode cX1_chain 51 = .ok (.iinc 3 1, 3) := by decide +kernel
theorem dX1_chain_54 : decode cX1_chain 54 = .ok (.goto (-46), 3) := by decide +kernel
theorem dX1_chain_57 : decode cX1_chain 57 = .ok (.return_, 1) := by decide +kernel
theorem dX1_link_0 : decode cX1_link 0 = .ok (.iload_n 1, 1) := by decide +kernel
theorem dX1_link_1 : decode cX1_link 1 = .ok (.iconst 3, 1) := by decide +kernel
theorem dX1_link_2 : decode cX1_link 2 = .ok (.if_icmp .ne 11, 3) := by decide +kernel
theorem dX1_link_5 : decode cX1_link 5 = .ok (.aload_n 0, 1) := by decide +kernel
theorem dX1_link_6 : decode cX1_link 6 = .ok (.iload_n 2, 1) := by decide +kernel
theorem dX1_link_7 : decode cX1_link 7 = .ok (.invokevirtual 75, 3) := by decide +kernel
theorem dX1_link_10 : decode cX1_link 10 = .ok (.goto 24, 3) := by decide +kernel
theorem dX1_link_13 : decode cX1_link 13 = .ok (.iload_n 1, 1) := by decide +kernel
theorem dX1_link_14 : decode cX1_link 14 = .ok (.iconst 1, 1) := by decide +kernel
theorem dX1_link_15 : decode cX1_link 15 = .ok (.if_icmp .ne 11, 3) := by decide +kernel
theorem dX1_link_18 : decode cX1_link 18 = .ok (.aload_n 0, 1) := by decide +kernel
theorem dX1_link_19 : decode cX1_link 19 = .ok (.iload_n 2, 1) := by decide +kernel
theorem dX1_link_20 : decode cX1_link 20 = .ok (.invokevirtual 78, 3) := by decide +kernel
theorem dX1_link_23 : decode cX1_link 23 = .ok (.goto 11, 3) := by decide +kernel
theorem dX1_link_26 : decode cX1_link 26 = .ok (.aload_n 0, 1) := by decide +kernel
theorem dX1_link_27 : decode cX1_link 27 = .ok (.iload_n 1, 1) := by decide +kernel
theorem dX1_link_28 : decode cX1_link 28 = .ok (.iconst 1, 1) := by decide +kernel
theorem dX1_link_29 : decode cX1_link 29 = .ok (.iadd, 1) := by decide +kernel
theorem dX1_link_30 : decode cX1_link 30 = .ok (.iload_n 2, 1) := by decide +kernel
theorem dX1_link_31 : decode cX1_link 31 = .ok (.invokevirtual 45, 3) := by decide +kernel
theorem dX1_link_34 : decode cX1_link 34 = .ok (.return_, 1) := by decide +kernel
theorem dX1_denial_0 : decode cX1_denial 0 = .ok (.aload_n 0, 1) := by decide +kernel
theorem dX1_denial_1 : decode cX1_denial 1 = .ok (.getfield 52, 3) := by decide +kernel
theorem dX1_denial_4 : decode cX1_denial 4 = .ok (.bipush 11, 2) := by decide +kernel
theorem dX1_denial_6 : decode cX1_denial 6 = .ok (.if_icmp .ne 29, 3) := by decide +kernel
theorem dX1_denial_9 : decode cX1_denial 9 = .ok (.iload_n 1, 1) := by decide +kernel
theorem dX1_denial_10 : decode cX1_denial 10 = .ok (.iconst 5, 1) := by decide +kernel
theorem dX1_denial_11 : decode cX1_denial 11 = .ok (.if_icmp .ge 24, 3) := by decide +kernel
theorem dX1_denial_14 : decode cX1_denial 14 = .ok (.aload_n 0, 1) := by decide +kernel
theorem dX1_denial_15 : decode cX1_denial 15 = .ok (.invokevirtual 38, 3) := by decide +kernel
theorem dX1_denial_18 : decode cX1_denial 18 = .ok (.aload_n 0, 1) := by decide +kernel
theorem dX1_denial_19 : decode cX1_denial 19 = .ok (.iload_n 1, 1) := by decide +kernel
theorem dX1_denial_20 : decode cX1_denial 20 = .ok (.iconst 1, 1) := by decide +kernel
theorem dX1_denial_21 : decode cX1_denial 21 = .ok (.iadd, 1) := by decide +kernel
theorem dX1_denial_22 : decode cX1_denial 22 = .ok (.invokevirtual 78, 3) := by decide +kernel
theorem dX1_denial_25 : decode cX1_denial 25 = .ok (.aload_n 0, 1) := by decide +kernel
theorem dX1_denial_26 : decode cX1_denial 26 = .ok (.getfield 15, 3) := by decide +kernel
theorem dX1_denial_29 : decode cX1_denial 29 = .ok (.bipush (-7), 2) := by decide +kernel
theorem dX1_denial_31 : decode cX1_denial 31 = .ok (.invokevirtual 72, 3) := by decide +kernel
theorem dX1_denial_34 : decode cX1_denial 34 = .ok (.return_, 1) := by decide +kernel
theorem dX1_denial_35 : decode cX1_denial 35 = .ok (.aload_n 0, 1) := by decide +kernel
theorem dX1_denial_36 : decode cX1_denial 36 = .ok (.iconst 2, 1) := by decide +kernel
theorem dX1_denial_37 : decode cX1_denial 37 = .ok (.iload_n 1, 1) := by decide +kernel
theorem dX1_denial_38 : decode cX1_denial 38 = .ok (.invokevirtual 45, 3) := by decide +kernel
theorem dX1_denial_41 : decode cX1_denial 41 = .ok (.aload_n 0, 1) := by decide +kernel
theorem dX1_denial_42 : decode cX1_denial 42 = .ok (.getfield 52, 3) := by decide +kernel
theorem dX1_denial_45 : decode cX1_denial 45 = .ok (.bipush 60, 2) := by decide +kernel
theorem dX1_denial_47 : decode cX1_denial 47 = .ok (.if_icmp .eq 12, 3) := by decide +kernel
theorem dX1_denial_50 : decode cX1_denial 50 = .ok (.aload_n 0, 1) := by decide +kernel
theorem dX1_denial_51 : decode cX1_denial 51 = .ok (.getfield 52, 3) := by decide +kernel
theorem dX1_denial_54 : decode cX1_denial 54 = .ok (.bipush 61, 2) := by decide +kernel
theorem dX1_denial_56 : decode cX1_denial 56 = .ok (.if_icmp .ne 29, 3) := by decide +kernel
theorem dX1_denial_59 : decode cX1_denial 59 = .ok (.aload_n 0, 1) := by decide +kernel
theorem dX1_denial_60 : decode cX1_denial 60 = .ok (.getfield 52, 3) := by decide +kernel
theorem dX1_denial_63 : decode cX1_denial 63 = .ok (.istore_n 2, 1) := by decide +kernel
theorem dX1_denial_64 : decode cX1_denial 64 = .ok (.aload_n 0, 1) := by decide +kernel
theorem dX1_denial_65 : decode cX1_denial 65 = .ok (.invokevirtual 38, 3) := by decide +kernel
theorem dX1_denial_68 : decode cX1_denial 68 = .ok (.aload_n 0, 1) := by decide +kernel
theorem dX1_denial_69 : decode cX1_denial 69 = .ok (.iconst 2, 1) := by decide +kernel
theorem dX1_denial_70 : decode cX1_denial 70 = .ok (.iload_n 1, 1) := by decide +kernel
theorem dX1_denial_71 : decode cX1_denial 71 = .ok (.invokevirtual 45, 3) := by decide +kernel
theorem dX1_denial_74 : decode cX1_denial 74 = .ok (.aload_n 0, 1) := by decide +kernel
theorem dX1_denial_75 : decode cX1_denial 75 = .ok (.getfield 15, 3) := by decide +kernel
theorem dX1_denial_78 : decode cX1_denial 78 = .ok (.iload_n 2, 1) := by decide +kernel
theorem dX1_denial_79 : decode cX1_denial 79 = .ok (.invokestatic 68, 3) := by decide +kernel
theorem dX1_denial_82 : decode cX1_denial 82 = .ok (.invokevirtual 72, 3) := by decide +kernel
theorem dX1_denial_85 : decode cX1_denial 85 = .ok (.return_, 1) := by decide +kernel
theorem dX1_one_0 : decode cX1_one 0 = .ok (.aload_n 0, 1) := by decide +kernel
theorem dX1_one_1 : decode cX1_one 1 = .ok (.getfield 52, 3) := by decide +kernel
theorem dX1_one_4 : decode cX1_one 4 = .ok (.sipush 300, 3) := by decide +kernel
theorem dX1_one_7 : decode cX1_one 7 = .ok (.if_icmp .ne 21, 3) := by decide +kernel
theorem dX1_one_10 : decode cX1_one 10 = .ok (.aload_n 0, 1) := by decide +kernel
theorem dX1_one_11 : decode cX1_one 11 = .ok (.getfield 15, 3) := by decide +kernel
theorem dX1_one_14 : decode cX1_one 14 = .ok (.aload_n 0, 1) := by decide +kernel
theorem dX1_one_15 : decode cX1_one 15 = .ok (.getfield 81, 3) := by decide +kernel
theorem dX1_one_18 : decode cX1_one 18 = .ok (.invokevirtual 72, 3) := by decide +kernel
theorem dX1_one_21 : decode cX1_one 21 = .ok (.aload_n 0, 1) := by decide +kernel
theorem dX1_one_22 : decode cX1_one 22 = .ok (.invokevirtual 38, 3) := by decide +kernel
theorem dX1_one_25 : decode cX1_one 25 = .ok (.goto 111, 3) := by decide +kernel
theorem dX1_one_28 : decode cX1_one 28 = .ok (.aload_n 0, 1) := by decide +kernel
theorem dX1_one_29 : decode cX1_one 29 = .ok (.getfield 52, 3) := by decide +kernel
theorem dX1_one_32 : decode cX1_one 32 = .ok (.bipush 6, 2) := by decide +kernel
theorem dX1_one_34 : decode cX1_one 34 = .ok (.invokestatic 23, 3) := by decide +kernel
theorem dX1_one_37 : decode cX1_one 37 = .ok (.ifCond .eq 23, 3) := by decide +kernel
theorem dX1_one_40 : decode cX1_one 40 = .ok (.aload_n 0, 1) := by decide +kernel
theorem dX1_one_41 : decode cX1_one 41 = .ok (.getfield 15, 3) := by decide +kernel
theorem dX1_one_44 : decode cX1_one 44 = .ok (.iconst (-1), 1) := by decide +kernel
theorem dX1_one_45 : decode cX1_one 45 = .ok (.aload_n 0, 1) := by decide +kernel
theorem dX1_one_46 : decode cX1_one 46 = .ok (.getfield 52, 3) := by decide +kernel
theorem dX1_one_49 : decode cX1_one 49 = .ok (.isub, 1) := by decide +kernel
theorem dX1_one_50 : decode cX1_one 50 = .ok (.invokevirtual 72, 3) := by decide +kernel
theorem dX1_one_53 : decode cX1_one 53 = .ok (.aload_n 0, 1) := by decide +kernel
theorem dX1_one_54 : decode cX1_one 54 = .ok (.invokevirtual 38, 3) := by decide +kernel
theorem dX1_one_57 : decode cX1_one 57 = .ok (.goto 79, 3) := by decide +kernel
theorem dX1_one_60 : decode cX1_one 60 = .ok (.aload_n 0, 1) := by decide +kernel
theorem dX1_one_61 : decode cX1_one 61 = .ok (.getfield 52, 3) := by decide +kernel
theorem dX1_one_64 : decode cX1_one 64 = .ok (.bipush 45, 2) := by decide +kernel
theorem dX1_one_66 : decode cX1_one 66 = .ok (.if_icmp .ne 31, 3) := by decide +kernel
theorem dX1_one_69 : decode cX1_one 69 = .ok (.iload_n 1, 1) := by decide +kernel
theorem dX1_one_70 : decode cX1_one 70 = .ok (.iconst 5, 1) := by decide +kernel
theorem dX1_one_71 : decode cX1_one 71 = .ok (.if_icmp .ge 26, 3) := by decide +kernel
theorem dX1_one_74 : decode cX1_one 74 = .ok (.aload_n 0, 1) := by decide +kernel
theorem dX1_one_75 : decode cX1_one 75 = .ok (.invokevirtual 38, 3) := by decide +kernel
theorem dX1_one_78 : decode cX1_one 78 = .ok (.aload_n 0, 1) := by decide +kernel
theorem dX1_one_79 : decode cX1_one 79 = .ok (.iload_n 1, 1) := by decide +kernel
theorem dX1_one_80 : decode cX1_one 80 = .ok (.iconst 1, 1) := by decide +kernel
theorem dX1_one_81 : decode cX1_one 81 = .ok (.iadd, 1) := by decide +kernel
theorem dX1_one_82 : decode cX1_one 82 = .ok (.invokevirtual 75, 3) := by decide +kernel
theorem dX1_one_85 : decode cX1_one 85 = .ok (.aload_n 0, 1) := by decide +kernel
theorem dX1_one_86 : decode cX1_one 86 = .ok (.getfield 15, 3) := by decide +kernel
theorem dX1_one_89 : decode cX1_one 89 = .ok (.bipush (-8), 2) := by decide +kernel
theorem dX1_one_91 : decode cX1_one 91 = .ok (.invokevirtual 72, 3) := by decide +kernel
theorem dX1_one_94 : decode cX1_one 94 = .ok (.goto 42, 3) := by decide +kernel
theorem dX1_one_97 : decode cX1_one 97 = .ok (.aload_n 0, 1) := by decide +kernel
theorem dX1_one_98 : decode cX1_one 98 = .ok (.getfield 52, 3) := by decide +kernel
theorem dX1_one_101 : decode cX1_one 101 = .ok (.bipush 40, 2) := by decide +kernel
theorem dX1_one_103 : decode cX1_one 103 = .ok (.if_icmp .ne 29, 3) := by decide +kernel
theorem dX1_one_106 : decode cX1_one 106 = .ok (.iload_n 1, 1) := by decide +kernel
theorem dX1_one_107 : decode cX1_one 107 = .ok (.iconst 5, 1) := by decide +kernel
theorem dX1_one_108 : decode cX1_one 108 = .ok (.if_icmp .ge 24, 3) := by decide +kernel
theorem dX1_one_111 : decode cX1_one 111 = .ok (.aload_n 0, 1) := by decide +kernel
theorem dX1_one_112 : decode cX1_one 112 = .ok (.invokevirtual 38, 3) := by decide +kernel
theorem dX1_one_115 : decode cX1_one 115 = .ok (.aload_n 0, 1) := by decide +kernel
theorem dX1_one_116 : decode cX1_one 116 = .ok (.iconst 0, 1) := by decide +kernel
theorem dX1_one_117 : decode cX1_one 117 = .ok (.iload_n 1, 1) := by decide +kernel
theorem dX1_one_118 : decode cX1_one 118 = .ok (.iconst 1, 1) := by decide +kernel
theorem dX1_one_119 : decode cX1_one 119 = .ok (.iadd, 1) := by decide +kernel
theorem dX1_one_120 : decode cX1_one 120 = .ok (.invokevirtual 45, 3) := by decide +kernel
theorem dX1_one_123 : decode cX1_one 123 = .ok (.aload_n 0, 1) := by decide +kernel
theorem dX1_one_124 : decode cX1_one 124 = .ok (.bipush 41, 2) := by decide +kernel
theorem dX1_one_126 : decode cX1_one 126 = .ok (.invokevirtual 41, 3) := by decide +kernel
theorem dX1_one_129 : decode cX1_one 129 = .ok (.goto 7, 3) := by decide +kernel
theorem dX1_one_132 : decode cX1_one 132 = .ok (.aload_n 0, 1) := by decide +kernel
theorem dX1_one_133 : decode cX1_one 133 = .ok (.invokevirtual 55, 3) := by decide +kernel
theorem dX1_one_136 : decode cX1_one 136 = .ok (.return_, 1) := by decide +kernel
theorem dX1_joins_0 : decode cX1_joins 0 = .ok (.iload_n 1, 1) := by decide +kernel
theorem dX1_joins_1 : decode cX1_joins 1 = .ok (.tableswitch 81 0 2 #[27, 42, 57], 27) := by decide +kernel
theorem dX1_joins_28 : decode cX1_joins 28 = .ok (.aload_n 0, 1) := by decide +kernel
theorem dX1_joins_29 : decode cX1_joins 29 = .ok (.getfield 52, 3) := by decide +kernel
theorem dX1_joins_32 : decode cX1_joins 32 = .ok (.bipush 9, 2) := by decide +kernel
theorem dX1_joins_34 : decode cX1_joins 34 = .ok (.if_icmp .ne 7, 3) := by decide +kernel
theorem dX1_joins_37 : decode cX1_joins 37 = .ok (.iconst 1, 1) := by decide +kernel
theorem dX1_joins_38 : decode cX1_joins 38 = .ok (.goto 4, 3) := by decide +kernel
theorem dX1_joins_41 : decode cX1_joins 41 = .ok (.iconst 0, 1) := by decide +kernel
theorem dX1_joins_42 : decode cX1_joins 42 = .ok (.ireturn, 1) := by decide +kernel
theorem dX1_joins_43 : decode cX1_joins 43 = .ok (.aload_n 0, 1) := by decide +kernel
theorem dX1_joins_44 : decode cX1_joins 44 = .ok (.getfield 52, 3) := by decide +kernel
theorem dX1_joins_47 : decode cX1_joins 47 = .ok (.bipush 10, 2) := by decide +kernel
theorem dX1_joins_49 : decode cX1_joins 49 = .ok (.if_icmp .ne 7, 3) := by decide +kernel
theorem dX1_joins_52 : decode cX1_joins 52 = .ok (.iconst 1, 1) := by decide +kernel
theorem dX1_joins_53 : decode cX1_joins 53 = .ok (.goto 4, 3) := by decide +kernel
theorem dX1_joins_56 : decode cX1_joins 56 = .ok (.iconst 0, 1) := by decide +kernel
theorem dX1_joins_57 : decode cX1_joins 57 = .ok (.ireturn, 1) := by decide +kernel
theorem dX1_joins_58 : decode cX1_joins 58 = .ok (.aload_n 0, 1) := by decide +kernel
theorem dX1_joins_59 : decode cX1_joins 59 = .ok (.getfield 52, 3) := by decide +kernel
theorem dX1_joins_62 : decode cX1_joins 62 = .ok (.bipush 43, 2) := by decide +kernel
theorem dX1_joins_64 : decode cX1_joins 64 = .ok (.if_icmp .eq 12, 3) := by decide +kernel
theorem dX1_joins_67 : decode cX1_joins 67 = .ok (.aload_n 0, 1) := by decide +kernel
theorem dX1_joins_68 : decode cX1_joins 68 = .ok (.getfield 52, 3) := by decide +kernel
theorem dX1_joins_71 : decode cX1_joins 71 = .ok (.bipush 45, 2) := by decide +kernel
theorem dX1_joins_73 : decode cX1_joins 73 = .ok (.if_icmp .ne 7, 3) := by decide +kernel
theorem dX1_joins_76 : decode cX1_joins 76 = .ok (.iconst 1, 1) := by decide +kernel
theorem dX1_joins_77 : decode cX1_joins 77 = .ok (.goto 4, 3) := by decide +kernel
theorem dX1_joins_80 : decode cX1_joins 80 = .ok (.iconst 0, 1) := by decide +kernel
theorem dX1_joins_81 : decode cX1_joins 81 = .ok (.ireturn, 1) := by decide +kernel
theorem dX1_joins_82 : decode cX1_joins 82 = .ok (.aload_n 0, 1) := by decide +kernel
theorem dX1_joins_83 : decode cX1_joins 83 = .ok (.getfield 52, 3) := by decide +kernel
theorem dX1_joins_86 : decode cX1_joins 86 = .ok (.bipush 42, 2) := by decide +kernel
theorem dX1_joins_88 : decode cX1_joins 88 = .ok (.if_icmp .ne 7, 3) := by decide +kernel
theorem dX1_joins_91 : decode cX1_joins 91 = .ok (.iconst 1, 1) := by decide +kernel
theorem dX1_joins_92 : decode cX1_joins 92 = .ok (.goto 4, 3) := by decide +kernel
theorem dX1_joins_95 : decode cX1_joins 95 = .ok (.iconst 0, 1) := by decide +kernel
theorem dX1_joins_96 : decode cX1_joins 96 = .ok (.ireturn, 1) := by decide +kernel
theorem dX1_stepOf_0 : decode cX1_stepOf 0 = .ok (.iload_n 0, 1) := by decide +kernel
theorem dX1_stepOf_1 : decode cX1_stepOf 1 = .ok (.lookupswitch 77 #[(9, 59), (10, 62), (43, 71), (45, 74), (60, 65), (61, 68)], 59) := by decide +kernel
theorem dX1_stepOf_60 : decode cX1_stepOf 60 = .ok (.bipush (-9), 2) := by decide +kernel
theorem dX1_stepOf_62 : decode cX1_stepOf 62 = .ok (.ireturn, 1) := by decide +kernel
theorem dX1_stepOf_63 : decode cX1_stepOf 63 = .ok (.bipush (-10), 2) := by decide +kernel
theorem dX1_stepOf_65 : decode cX1_stepOf 65 = .ok (.ireturn, 1) := by decide +kernel
theorem dX1_stepOf_66 : decode cX1_stepOf 66 = .ok (.bipush (-11), 2) := by decide +kernel
theorem dX1_stepOf_68 : decode cX1_stepOf 68 = .ok (.ireturn, 1) := by decide +kernel
theorem dX1_stepOf_69 : decode cX1_stepOf 69 = .ok (.bipush (-12), 2) := by decide +kernel
theorem dX1_stepOf_71 : decode cX1_stepOf 71 = .ok (.ireturn, 1) := by decide +kernel
theorem dX1_stepOf_72 : decode cX1_stepOf 72 = .ok (.bipush (-13), 2) := by decide +kernel
theorem dX1_stepOf_74 : decode cX1_stepOf 74 = .ok (.ireturn, 1) := by decide +kernel
theorem dX1_stepOf_75 : decode cX1_stepOf 75 = .ok (.bipush (-14), 2) := by decide +kernel
theorem dX1_stepOf_77 : decode cX1_stepOf 77 = .ok (.ireturn, 1) := by decide +kernel
theorem dX1_stepOf_78 : decode cX1_stepOf 78 = .ok (.bipush (-15), 2) := by decide +kernel
theorem dX1_stepOf_80 : decode cX1_stepOf 80 = .ok (.ireturn, 1) := by decide +kernel
theorem dX1_advance_0 : decode cX1_advance 0 = .ok (.aload_n 0, 1) := by decide +kernel
theorem dX1_advance_1 : decode cX1_advance 1 = .ok (.getfield 27, 3) := by decide +kernel
theorem dX1_advance_4 : decode cX1_advance 4 = .ok (.aload_n 0, 1) := by decide +kernel
theorem dX1_advance_5 : decode cX1_advance 5 = .ok (.getfield 19, 3) := by decide +kernel
theorem dX1_advance_8 : decode cX1_advance 8 = .ok (.if_icmp .ge 41, 3) := by decide +kernel
theorem dX1_advance_11 : decode cX1_advance 11 = .ok (.aload_n 0, 1) := by decide +kernel
theorem dX1_advance_12 : decode cX1_advance 12 = .ok (.getfield 27, 3) := by decide +kernel
theorem dX1_advance_15 : decode cX1_advance 15 = .ok (.sipush 160, 3) := by decide +kernel
theorem dX1_advance_18 : decode cX1_advance 18 = .ok (.if_icmp .ge 31, 3) := by decide +kernel
theorem dX1_advance_21 : decode cX1_advance 21 = .ok (.aload_n 0, 1) := by decide +kernel
theorem dX1_advance_22 : decode cX1_advance 22 = .ok (.getfield 9, 3) := by decide +kernel
theorem dX1_advance_25 : decode cX1_advance 25 = .ok (.aload_n 0, 1) := by decide +kernel
theorem dX1_advance_26 : decode cX1_advance 26 = .ok (.getfield 27, 3) := by decide +kernel
theorem dX1_advance_29 : decode cX1_advance 29 = .ok (.iaload, 1) := by decide +kernel
theorem dX1_advance_30 : decode cX1_advance 30 = .ok (.invokestatic 84, 3) := by decide +kernel
theorem dX1_advance_33 : decode cX1_advance 33 = .ok (.ifCond .eq 16, 3) := by decide +kernel
theorem dX1_advance_36 : decode cX1_advance 36 = .ok (.aload_n 0, 1) := by decide +kernel
theorem dX1_advance_37 : decode cX1_advance 37 = .ok (.dup, 1) := by decide +kernel
theorem dX1_advance_38 : decode cX1_advance 38 = .ok (.getfield 27, 3) := by decide +kernel
theorem dX1_advance_41 : decode cX1_advance 41 = .ok (.iconst 1, 1) := by decide +kernel
theorem dX1_advance_42 : decode cX1_advance 42 = .ok (.iadd, 1) := by decide +kernel
theorem dX1_advance_43 : decode cX1_advance 43 = .ok (.putfield 27, 3) := by decide +kernel
theorem dX1_advance_46 : decode cX1_advance 46 = .ok (.goto (-46), 3) := by decide +kernel
theorem dX1_advance_49 : decode cX1_advance 49 = .ok (.aload_n 0, 1) := by decide +kernel
theorem dX1_advance_50 : decode cX1_advance 50 = .ok (.aload_n 0, 1) := by decide +kernel
theorem dX1_advance_51 : decode cX1_advance 51 = .ok (.getfield 27, 3) := by decide +kernel
theorem dX1_advance_54 : decode cX1_advance 54 = .ok (.putfield 58, 3) := by decide +kernel
theorem dX1_advance_57 : decode cX1_advance 57 = .ok (.aload_n 0, 1) := by decide +kernel
theorem dX1_advance_58 : decode cX1_advance 58 = .ok (.getfield 27, 3) := by decide +kernel
theorem dX1_advance_61 : decode cX1_advance 61 = .ok (.aload_n 0, 1) := by decide +kernel
theorem dX1_advance_62 : decode cX1_advance 62 = .ok (.getfield 19, 3) := by decide +kernel
theorem dX1_advance_65 : decode cX1_advance 65 = .ok (.if_icmp .ge 13, 3) := by decide +kernel
theorem dX1_advance_68 : decode cX1_advance 68 = .ok (.aload_n 0, 1) := by decide +kernel
theorem dX1_advance_69 : decode cX1_advance 69 = .ok (.getfield 27, 3) := by decide +kernel
theorem dX1_advance_72 : decode cX1_advance 72 = .ok (.sipush 160, 3) := by decide +kernel
theorem dX1_advance_75 : decode cX1_advance 75 = .ok (.if_icmp .lt 13, 3) := by decide +kernel
theorem dX1_advance_78 : decode cX1_advance 78 = .ok (.aload_n 0, 1) := by decide +kernel
theorem dX1_advance_79 : decode cX1_advance 79 = .ok (.sipush 301, 3) := by decide +kernel
theorem dX1_advance_82 : decode cX1_advance 82 = .ok (.putfield 52, 3) := by decide +kernel
theorem dX1_advance_85 : decode cX1_advance 85 = .ok (.goto 94, 3) := by decide +kernel
theorem dX1_advance_88 : decode cX1_advance 88 = .ok (.aload_n 0, 1) := by decide +kernel
theorem dX1_advance_89 : decode cX1_advance 89 = .ok (.getfield 9, 3) := by decide +kernel
theorem dX1_advance_92 : decode cX1_advance 92 = .ok (.aload_n 0, 1) := by decide +kernel
theorem dX1_advance_93 : decode cX1_advance 93 = .ok (.getfield 27, 3) := by decide +kernel
theorem dX1_advance_96 : decode cX1_advance 96 = .ok (.iaload, 1) := by decide +kernel
theorem dX1_advance_97 : decode cX1_advance 97 = .ok (.invokestatic 87, 3) := by decide +kernel
theorem dX1_advance_100 : decode cX1_advance 100 = .ok (.ifCond .eq 10, 3) := by decide +kernel
theorem dX1_advance_103 : decode cX1_advance 103 = .ok (.aload_n 0, 1) := by decide +kernel
theorem dX1_advance_104 : decode cX1_advance 104 = .ok (.invokevirtual 90, 3) := by decide +kernel
theorem dX1_advance_107 : decode cX1_advance 107 = .ok (.goto 72, 3) := by decide +kernel
theorem dX1_advance_110 : decode cX1_advance 110 = .ok (.aload_n 0, 1) := by decide +kernel
theorem dX1_advance_111 : decode cX1_advance 111 = .ok (.getfield 9, 3) := by decide +kernel
theorem dX1_advance_114 : decode cX1_advance 114 = .ok (.aload_n 0, 1) := by decide +kernel
theorem dX1_advance_115 : decode cX1_advance 115 = .ok (.getfield 27, 3) := by decide +kernel
theorem dX1_advance_118 : decode cX1_advance 118 = .ok (.iaload, 1) := by decide +kernel
theorem dX1_advance_119 : decode cX1_advance 119 = .ok (.invokestatic 93, 3) := by decide +kernel
theorem dX1_advance_122 : decode cX1_advance 122 = .ok (.ifCond .eq 10, 3) := by decide +kernel
theorem dX1_advance_125 : decode cX1_advance 125 = .ok (.aload_n 0, 1) := by decide +kernel
theorem dX1_advance_126 : decode cX1_advance 126 = .ok (.invokevirtual 96, 3) := by decide +kernel
theorem dX1_advance_129 : decode cX1_advance 129 = .ok (.goto 50, 3) := by decide +kernel
theorem dX1_advance_132 : decode cX1_advance 132 = .ok (.aload_n 0, 1) := by decide +kernel
theorem dX1_advance_133 : decode cX1_advance 133 = .ok (.ldc 99, 2) := by decide +kernel
theorem dX1_advance_135 : decode cX1_advance 135 = .ok (.aload_n 0, 1) := by decide +kernel
theorem dX1_advance_136 : decode cX1_advance 136 = .ok (.getfield 9, 3) := by decide +kernel
theorem dX1_advance_139 : decode cX1_advance 139 = .ok (.aload_n 0, 1) := by decide +kernel
theorem dX1_advance_140 : decode cX1_advance 140 = .ok (.getfield 27, 3) := by decide +kernel
theorem dX1_advance_143 : decode cX1_advance 143 = .ok (.iaload, 1) := by decide +kernel
theorem dX1_advance_144 : decode cX1_advance 144 = .ok (.i2c, 1) := by decide +kernel
theorem dX1_advance_145 : decode cX1_advance 145 = .ok (.invokevirtual 101, 3) := by decide +kernel
theorem dX1_advance_148 : decode cX1_advance 148 = .ok (.ifCond .lt 15, 3) := by decide +kernel
theorem dX1_advance_151 : decode cX1_advance 151 = .ok (.aload_n 0, 1) := by decide +kernel
theorem dX1_advance_152 : decode cX1_advance 152 = .ok (.getfield 9, 3) := by decide +kernel
theorem dX1_advance_155 : decode cX1_advance 155 = .ok (.aload_n 0, 1) := by decide +kernel
theorem dX1_advance_156 : decode cX1_advance 156 = .ok (.getfield 27, 3) := by decide +kernel
theorem dX1_advance_159 : decode cX1_advance 159 = .ok (.iaload, 1) := by decide +kernel
theorem dX1_advance_160 : decode cX1_advance 160 = .ok (.goto 6, 3) := by decide +kernel
theorem dX1_advance_163 : decode cX1_advance 163 = .ok (.sipush 302, 3) := by decide +kernel
theorem dX1_advance_166 : decode cX1_advance 166 = .ok (.putfield 52, 3) := by decide +kernel
theorem dX1_advance_169 : decode cX1_advance 169 = .ok (.aload_n 0, 1) := by decide +kernel
theorem dX1_advance_170 : decode cX1_advance 170 = .ok (.dup, 1) := by decide +kernel
theorem dX1_advance_171 : decode cX1_advance 171 = .ok (.getfield 27, 3) := by decide +kernel
theorem dX1_advance_174 : decode cX1_advance 174 = .ok (.iconst 1, 1) := by decide +kernel
theorem dX1_advance_175 : decode cX1_advance 175 = .ok (.iadd, 1) := by decide +kernel
theorem dX1_advance_176 : decode cX1_advance 176 = .ok (.putfield 27, 3) := by decide +kernel
theorem dX1_advance_179 : decode cX1_advance 179 = .ok (.return_, 1) := by decide +kernel
theorem dX1_readSpelled_0 : decode cX1_readSpelled 0 = .ok (.aload_n 0, 1) := by decide +kernel
theorem dX1_readSpelled_1 : decode cX1_readSpelled 1 = .ok (.getfield 27, 3) := by decide +kernel
theorem dX1_readSpelled_4 : decode cX1_readSpelled 4 = .ok (.aload_n 0, 1) := by decide +kernel
theorem dX1_readSpelled_5 : decode cX1_readSpelled 5 = .ok (.getfield 19, 3) := by decide +kernel
theorem dX1_readSpelled_8 : decode cX1_readSpelled 8 = .ok (.if_icmp .ge 41, 3) := by decide +kernel
theorem dX1_readSpelled_11 : decode cX1_readSpelled 11 = .ok (.aload_n 0, 1) := by decide +kernel
theorem dX1_readSpelled_12 : decode cX1_readSpelled 12 = .ok (.getfield 27, 3) := by decide +kernel
theorem dX1_readSpelled_15 : decode cX1_readSpelled 15 = .ok (.sipush 160, 3) := by decide +kernel
theorem dX1_readSpelled_18 : decode cX1_readSpelled 18 = .ok (.if_icmp .ge 31, 3) := by decide +kernel
theorem dX1_readSpelled_21 : decode cX1_readSpelled 21 = .ok (.aload_n 0, 1) := by decide +kernel
theorem dX1_readSpelled_22 : decode cX1_readSpelled 22 = .ok (.getfield 9, 3) := by decide +kernel
theorem dX1_readSpelled_25 : decode cX1_readSpelled 25 = .ok (.aload_n 0, 1) := by decide +kernel
theorem dX1_readSpelled_26 : decode cX1_readSpelled 26 = .ok (.getfield 27, 3) := by decide +kernel
theorem dX1_readSpelled_29 : decode cX1_readSpelled 29 = .ok (.iaload, 1) := by decide +kernel
theorem dX1_readSpelled_30 : decode cX1_readSpelled 30 = .ok (.invokestatic 87, 3) := by decide +kernel
theorem dX1_readSpelled_33 : decode cX1_readSpelled 33 = .ok (.ifCond .eq 16, 3) := by decide +kernel
theorem dX1_readSpelled_36 : decode cX1_readSpelled 36 = .ok (.aload_n 0, 1) := by decide +kernel
theorem dX1_readSpelled_37 : decode cX1_readSpelled 37 = .ok (.dup, 1) := by decide +kernel
theorem dX1_readSpelled_38 : decode cX1_readSpelled 38 = .ok (.getfield 27, 3) := by decide +kernel
theorem dX1_readSpelled_41 : decode cX1_readSpelled 41 = .ok (.iconst 1, 1) := by decide +kernel
theorem dX1_readSpelled_42 : decode cX1_readSpelled 42 = .ok (.iadd, 1) := by decide +kernel
theorem dX1_readSpelled_43 : decode cX1_readSpelled 43 = .ok (.putfield 27, 3) := by decide +kernel
theorem dX1_readSpelled_46 : decode cX1_readSpelled 46 = .ok (.goto (-46), 3) := by decide +kernel
theorem dX1_readSpelled_49 : decode cX1_readSpelled 49 = .ok (.aload_n 0, 1) := by decide +kernel
theorem dX1_readSpelled_50 : decode cX1_readSpelled 50 = .ok (.getfield 27, 3) := by decide +kernel
theorem dX1_readSpelled_53 : decode cX1_readSpelled 53 = .ok (.aload_n 0, 1) := by decide +kernel
theorem dX1_readSpelled_54 : decode cX1_readSpelled 54 = .ok (.getfield 58, 3) := by decide +kernel
theorem dX1_readSpelled_57 : decode cX1_readSpelled 57 = .ok (.isub, 1) := by decide +kernel
theorem dX1_readSpelled_58 : decode cX1_readSpelled 58 = .ok (.istore_n 1, 1) := by decide +kernel
theorem dX1_readSpelled_59 : decode cX1_readSpelled 59 = .ok (.aload_n 0, 1) := by decide +kernel
theorem dX1_readSpelled_60 : decode cX1_readSpelled 60 = .ok (.sipush 302, 3) := by decide +kernel
theorem dX1_readSpelled_63 : decode cX1_readSpelled 63 = .ok (.putfield 52, 3) := by decide +kernel
theorem dX1_readSpelled_66 : decode cX1_readSpelled 66 = .ok (.iconst 0, 1) := by decide +kernel
theorem dX1_readSpelled_67 : decode cX1_readSpelled 67 = .ok (.istore_n 2, 1) := by decide +kernel
theorem dX1_readSpelled_68 : decode cX1_readSpelled 68 = .ok (.iload_n 2, 1) := by decide +kernel
theorem dX1_readSpelled_69 : decode cX1_readSpelled 69 = .ok (.bipush 12, 2) := by decide +kernel
theorem dX1_readSpelled_71 : decode cX1_readSpelled 71 = .ok (.if_icmp .ge 79, 3) := by decide +kernel
theorem dX1_readSpelled_74 : decode cX1_readSpelled 74 = .ok (.iload_n 1, 1) := by decide +kernel
theorem dX1_readSpelled_75 : decode cX1_readSpelled 75 = .ok (.bipush 7, 2) := by decide +kernel
theorem dX1_readSpelled_77 : decode cX1_readSpelled 77 = .ok (.if_icmp .ge 73, 3) := by decide +kernel
theorem dX1_readSpelled_80 : decode cX1_readSpelled 80 = .ok (.iconst 0, 1) := by decide +kernel
theorem dX1_readSpelled_81 : decode cX1_readSpelled 81 = .ok (.istore_n 3, 1) := by decide +kernel
theorem dX1_readSpelled_82 : decode cX1_readSpelled 82 = .ok (.iload_n 3, 1) := by decide +kernel
theorem dX1_readSpelled_83 : decode cX1_readSpelled 83 = .ok (.iload_n 1, 1) := by decide +kernel
theorem dX1_readSpelled_84 : decode cX1_readSpelled 84 = .ok (.if_icmp .ge 34, 3) := by decide +kernel
theorem dX1_readSpelled_87 : decode cX1_readSpelled 87 = .ok (.ldc 106, 2) := by decide +kernel
theorem dX1_readSpelled_89 : decode cX1_readSpelled 89 = .ok (.iload_n 2, 1) := by decide +kernel
theorem dX1_readSpelled_90 : decode cX1_readSpelled 90 = .ok (.bipush 7, 2) := by decide +kernel
theorem dX1_readSpelled_92 : decode cX1_readSpelled 92 = .ok (.imul, 1) := by decide +kernel
theorem dX1_readSpelled_93 : decode cX1_readSpelled 93 = .ok (.iload_n 3, 1) := by decide +kernel
theorem dX1_readSpelled_94 : decode cX1_readSpelled 94 = .ok (.iadd, 1) := by decide +kernel
theorem dX1_readSpelled_95 : decode cX1_readSpelled 95 = .ok (.invokevirtual 108, 3) := by decide +kernel
theorem dX1_readSpelled_98 : decode cX1_readSpelled 98 = .ok (.aload_n 0, 1) := by decide +kernel
theorem dX1_readSpelled_99 : decode cX1_readSpelled 99 = .ok (.getfield 9, 3) := by decide +kernel
theorem dX1_readSpelled_102 : decode cX1_readSpelled 102 = .ok (.aload_n 0, 1) := by decide +kernel
theorem dX1_readSpelled_103 : decode cX1_readSpelled 103 = .ok (.getfield 58, 3) := by decide +kernel
theorem dX1_readSpelled_106 : decode cX1_readSpelled 106 = .ok (.iload_n 3, 1) := by decide +kernel
theorem dX1_readSpelled_107 : decode cX1_readSpelled 107 = .ok (.iadd, 1) := by decide +kernel
theorem dX1_readSpelled_108 : decode cX1_readSpelled 108 = .ok (.iaload, 1) := by decide +kernel
theorem dX1_readSpelled_109 : decode cX1_readSpelled 109 = .ok (.if_icmp .ne 9, 3) := by decide +kernel
theorem dX1_readSpelled_112 : decode cX1_readSpelled 112 = .ok (.iinc 3 1, 3) := by decide +kernel
theorem dX1_readSpelled_115 : decode cX1_readSpelled 115 = .ok (.goto (-33), 3) := by decide +kernel
theorem dX1_readSpelled_118 : decode cX1_readSpelled 118 = .ok (.iload_n 3, 1) := by decide +kernel
theorem dX1_readSpelled_119 : decode cX1_readSpelled 119 = .ok (.iload_n 1, 1) := by decide +kernel
theorem dX1_readSpelled_120 : decode cX1_readSpelled 120 = .ok (.if_icmp .ne 24, 3) := by decide +kernel
theorem dX1_readSpelled_123 : decode cX1_readSpelled 123 = .ok (.ldc 106, 2) := by decide +kernel
theorem dX1_readSpelled_125 : decode cX1_readSpelled 125 = .ok (.iload_n 2, 1) := by decide +kernel
theorem dX1_readSpelled_126 : decode cX1_readSpelled 126 = .ok (.bipush 7, 2) := by decide +kernel
theorem dX1_readSpelled_128 : decode cX1_readSpelled 128 = .ok (.imul, 1) := by decide +kernel
theorem dX1_readSpelled_129 : decode cX1_readSpelled 129 = .ok (.iload_n 3, 1) := by decide +kernel
theorem dX1_readSpelled_130 : decode cX1_readSpelled 130 = .ok (.iadd, 1) := by decide +kernel
theorem dX1_readSpelled_131 : decode cX1_readSpelled 131 = .ok (.invokevirtual 108, 3) := by decide +kernel
theorem dX1_readSpelled_134 : decode cX1_readSpelled 134 = .ok (.bipush 32, 2) := by decide +kernel
theorem dX1_readSpelled_136 : decode cX1_readSpelled 136 = .ok (.if_icmp .ne 8, 3) := by decide +kernel
theorem dX1_readSpelled_139 : decode cX1_readSpelled 139 = .ok (.aload_n 0, 1) := by decide +kernel
theorem dX1_readSpelled_140 : decode cX1_readSpelled 140 = .ok (.iload_n 2, 1) := by decide +kernel
theorem dX1_readSpelled_141 : decode cX1_readSpelled 141 = .ok (.putfield 52, 3) := by decide +kernel
theorem dX1_readSpelled_144 : decode cX1_readSpelled 144 = .ok (.iinc 2 1, 3) := by decide +kernel
theorem dX1_readSpelled_147 : decode cX1_readSpelled 147 = .ok (.goto (-79), 3) := by decide +kernel
theorem dX1_readSpelled_150 : decode cX1_readSpelled 150 = .ok (.return_, 1) := by decide +kernel
theorem dX1_readNumber_0 : decode cX1_readNumber 0 = .ok (.aload_n 0, 1) := by decide +kernel
theorem dX1_readNumber_1 : decode cX1_readNumber 1 = .ok (.iconst 0, 1) := by decide +kernel
theorem dX1_readNumber_2 : decode cX1_readNumber 2 = .ok (.putfield 81, 3) := by decide +kernel
theorem dX1_readNumber_5 : decode cX1_readNumber 5 = .ok (.aload_n 0, 1) := by decide +kernel
theorem dX1_readNumber_6 : decode cX1_readNumber 6 = .ok (.getfield 27, 3) := by decide +kernel
theorem dX1_readNumber_9 : decode cX1_readNumber 9 = .ok (.aload_n 0, 1) := by decide +kernel
theorem dX1_readNumber_10 : decode cX1_readNumber 10 = .ok (.getfield 19, 3) := by decide +kernel
theorem dX1_readNumber_13 : decode cX1_readNumber 13 = .ok (.if_icmp .ge 85, 3) := by decide +kernel
theorem dX1_readNumber_16 : decode cX1_readNumber 16 = .ok (.aload_n 0, 1) := by decide +kernel
theorem dX1_readNumber_17 : decode cX1_readNumber 17 = .ok (.getfield 27, 3) := by decide +kernel
theorem dX1_readNumber_20 : decode cX1_readNumber 20 = .ok (.sipush 160, 3) := by decide +kernel
theorem dX1_readNumber_23 : decode cX1_readNumber 23 = .ok (.if_icmp .ge 75, 3) := by decide +kernel
theorem dX1_readNumber_26 : decode cX1_readNumber 26 = .ok (.aload_n 0, 1) := by decide +kernel
theorem dX1_readNumber_27 : decode cX1_readNumber 27 = .ok (.getfield 9, 3) := by decide +kernel
theorem dX1_readNumber_30 : decode cX1_readNumber 30 = .ok (.aload_n 0, 1) := by decide +kernel
theorem dX1_readNumber_31 : decode cX1_readNumber 31 = .ok (.getfield 27, 3) := by decide +kernel
theorem dX1_readNumber_34 : decode cX1_readNumber 34 = .ok (.iaload, 1) := by decide +kernel
theorem dX1_readNumber_35 : decode cX1_readNumber 35 = .ok (.invokestatic 93, 3) := by decide +kernel
theorem dX1_readNumber_38 : decode cX1_readNumber 38 = .ok (.ifCond .eq 60, 3) := by decide +kernel
theorem dX1_readNumber_41 : decode cX1_readNumber 41 = .ok (.aload_n 0, 1) := by decide +kernel
theorem dX1_readNumber_42 : decode cX1_readNumber 42 = .ok (.aload_n 0, 1) := by decide +kernel
theorem dX1_readNumber_43 : decode cX1_readNumber 43 = .ok (.getfield 27, 3) := by decide +kernel
theorem dX1_readNumber_46 : decode cX1_readNumber 46 = .ok (.aload_n 0, 1) := by decide +kernel
theorem dX1_readNumber_47 : decode cX1_readNumber 47 = .ok (.getfield 58, 3) := by decide +kernel
theorem dX1_readNumber_50 : decode cX1_readNumber 50 = .ok (.isub, 1) := by decide +kernel
theorem dX1_readNumber_51 : decode cX1_readNumber 51 = .ok (.iconst 4, 1) := by decide +kernel
theorem dX1_readNumber_52 : decode cX1_readNumber 52 = .ok (.if_icmp .ge 26, 3) := by decide +kernel
theorem dX1_readNumber_55 : decode cX1_readNumber 55 = .ok (.aload_n 0, 1) := by decide +kernel
theorem dX1_readNumber_56 : decode cX1_readNumber 56 = .ok (.getfield 81, 3) := by decide +kernel
theorem dX1_readNumber_59 : decode cX1_readNumber 59 = .ok (.bipush 10, 2) := by decide +kernel
theorem dX1_readNumber_61 : decode cX1_readNumber 61 = .ok (.imul, 1) := by decide +kernel
theorem dX1_readNumber_62 : decode cX1_readNumber 62 = .ok (.aload_n 0, 1) := by decide +kernel
theorem dX1_readNumber_63 : decode cX1_readNumber 63 = .ok (.getfield 9, 3) := by decide +kernel
theorem dX1_readNumber_66 : decode cX1_readNumber 66 = .ok (.aload_n 0, 1) := by decide +kernel
theorem dX1_readNumber_67 : decode cX1_readNumber 67 = .ok (.getfield 27, 3) := by decide +kernel
theorem dX1_readNumber_70 : decode cX1_readNumber 70 = .ok (.iaload, 1) := by decide +kernel
theorem dX1_readNumber_71 : decode cX1_readNumber 71 = .ok (.iadd, 1) := by decide +kernel
theorem dX1_readNumber_72 : decode cX1_readNumber 72 = .ok (.bipush 48, 2) := by decide +kernel
theorem dX1_readNumber_74 : decode cX1_readNumber 74 = .ok (.isub, 1) := by decide +kernel
theorem dX1_readNumber_75 : decode cX1_readNumber 75 = .ok (.goto 7, 3) := by decide +kernel
theorem dX1_readNumber_78 : decode cX1_readNumber 78 = .ok (.aload_n 0, 1) := by decide +kernel
theorem dX1_readNumber_79 : decode cX1_readNumber 79 = .ok (.getfield 81, 3) := by decide +kernel
theorem dX1_readNumber_82 : decode cX1_readNumber 82 = .ok (.putfield 81, 3) := by decide +kernel
theorem dX1_readNumber_85 : decode cX1_readNumber 85 = .ok (.aload_n 0, 1) := by decide +kernel
theorem dX1_readNumber_86 : decode cX1_readNumber 86 = .ok (.dup, 1) := by decide +kernel
theorem dX1_readNumber_87 : decode cX1_readNumber 87 = .ok (.getfield 27, 3) := by decide +kernel
theorem dX1_readNumber_90 : decode cX1_readNumber 90 = .ok (.iconst 1, 1) := by decide +kernel
theorem dX1_readNumber_91 : decode cX1_readNumber 91 = .ok (.iadd, 1) := by decide +kernel
theorem dX1_readNumber_92 : decode cX1_readNumber 92 = .ok (.putfield 27, 3) := by decide +kernel
theorem dX1_readNumber_95 : decode cX1_readNumber 95 = .ok (.goto (-90), 3) := by decide +kernel
theorem dX1_readNumber_98 : decode cX1_readNumber 98 = .ok (.aload_n 0, 1) := by decide +kernel
theorem dX1_readNumber_99 : decode cX1_readNumber 99 = .ok (.aload_n 0, 1) := by decide +kernel
theorem dX1_readNumber_100 : decode cX1_readNumber 100 = .ok (.getfield 27, 3) := by decide +kernel
theorem dX1_readNumber_103 : decode cX1_readNumber 103 = .ok (.aload_n 0, 1) := by decide +kernel
theorem dX1_readNumber_104 : decode cX1_readNumber 104 = .ok (.getfield 58, 3) := by decide +kernel
theorem dX1_readNumber_107 : decode cX1_readNumber 107 = .ok (.isub, 1) := by decide +kernel
theorem dX1_readNumber_108 : decode cX1_readNumber 108 = .ok (.iconst 4, 1) := by decide +kernel
theorem dX1_readNumber_109 : decode cX1_readNumber 109 = .ok (.if_icmp .gt 9, 3) := by decide +kernel
theorem dX1_readNumber_112 : decode cX1_readNumber 112 = .ok (.sipush 300, 3) := by decide +kernel
theorem dX1_readNumber_115 : decode cX1_readNumber 115 = .ok (.goto 6, 3) := by decide +kernel
theorem dX1_readNumber_118 : decode cX1_readNumber 118 = .ok (.sipush 302, 3) := by decide +kernel
theorem dX1_readNumber_121 : decode cX1_readNumber 121 = .ok (.putfield 52, 3) := by decide +kernel
theorem dX1_readNumber_124 : decode cX1_readNumber 124 = .ok (.return_, 1) := by decide +kernel
theorem dX1_isBlank_0 : decode cX1_isBlank 0 = .ok (.iload_n 0, 1) := by decide +kernel
theorem dX1_isBlank_1 : decode cX1_isBlank 1 = .ok (.bipush 32, 2) := by decide +kernel
theorem dX1_isBlank_3 : decode cX1_isBlank 3 = .ok (.if_icmp .eq 9, 3) := by decide +kernel
theorem dX1_isBlank_6 : decode cX1_isBlank 6 = .ok (.iload_n 0, 1) := by decide +kernel
theorem dX1_isBlank_7 : decode cX1_isBlank 7 = .ok (.bipush 10, 2) := by decide +kernel
theorem dX1_isBlank_9 : decode cX1_isBlank 9 = .ok (.if_icmp .ne 7, 3) := by decide +kernel
theorem dX1_isBlank_12 : decode cX1_isBlank 12 = .ok (.iconst 1, 1) := by decide +kernel
theorem dX1_isBlank_13 : decode cX1_isBlank 13 = .ok (.goto 4, 3) := by decide +kernel
theorem dX1_isBlank_16 : decode cX1_isBlank 16 = .ok (.iconst 0, 1) := by decide +kernel
theorem dX1_isBlank_17 : decode cX1_isBlank 17 = .ok (.ireturn, 1) := by decide +kernel
theorem dX1_isLetter_0 : decode cX1_isLetter 0 = .ok (.iload_n 0, 1) := by decide +kernel
theorem dX1_isLetter_1 : decode cX1_isLetter 1 = .ok (.bipush 97, 2) := by decide +kernel
theorem dX1_isLetter_3 : decode cX1_isLetter 3 = .ok (.if_icmp .lt 13, 3) := by decide +kernel
theorem dX1_isLetter_6 : decode cX1_isLetter 6 = .ok (.iload_n 0, 1) := by decide +kernel
theorem dX1_isLetter_7 : decode cX1_isLetter 7 = .ok (.bipush 122, 2) := by decide +kernel
theorem dX1_isLetter_9 : decode cX1_isLetter 9 = .ok (.if_icmp .gt 7, 3) := by decide +kernel
theorem dX1_isLetter_12 : decode cX1_isLetter 12 = .ok (.iconst 1, 1) := by decide +kernel
theorem dX1_isLetter_13 : decode cX1_isLetter 13 = .ok (.goto 4, 3) := by decide +kernel
theorem dX1_isLetter_16 : decode cX1_isLetter 16 = .ok (.iconst 0, 1) := by decide +kernel
theorem dX1_isLetter_17 : decode cX1_isLetter 17 = .ok (.ireturn, 1) := by decide +kernel
theorem dX1_isDigit_0 : decode cX1_isDigit 0 = .ok (.iload_n 0, 1) := by decide +kernel
theorem dX1_isDigit_1 : decode cX1_isDigit 1 = .ok (.bipush 48, 2) := by decide +kernel
theorem dX1_isDigit_3 : decode cX1_isDigit 3 = .ok (.if_icmp .lt 13, 3) := by decide +kernel
theorem dX1_isDigit_6 : decode cX1_isDigit 6 = .ok (.iload_n 0, 1) := by decide +kernel
theorem dX1_isDigit_7 : decode cX1_isDigit 7 = .ok (.bipush 57, 2) := by decide +kernel
theorem dX1_isDigit_9 : decode cX1_isDigit 9 = .ok (.if_icmp .gt 7, 3) := by decide +kernel
theorem dX1_isDigit_12 : decode cX1_isDigit 12 = .ok (.iconst 1, 1) := by decide +kernel
theorem dX1_isDigit_13 : decode cX1_isDigit 13 = .ok (.goto 4, 3) := by decide +kernel
theorem dX1_isDigit_16 : decode cX1_isDigit 16 = .ok (.iconst 0, 1) := by decide +kernel
theorem dX1_isDigit_17 : decode cX1_isDigit 17 = .ok (.ireturn, 1) := by decide +kernel
theorem dX2_init_0 : decode cX2_init 0 = .ok (.aload_n 0, 1) := by decide +kernel
theorem dX2_init_1 : decode cX2_init 1 = .ok (.invokespecial 3, 3) := by decide +kernel
theorem dX2_init_4 : decode cX2_init 4 = .ok (.aload_n 0, 1) := by decide +kernel
theorem dX2_init_5 : decode cX2_init 5 = .ok (.bipush 40, 2) := by decide +kernel
theorem dX2_init_7 : decode cX2_init 7 = .ok (.newarray .int, 2) := by decide +kernel
theorem dX2_init_9 : decode cX2_init 9 = .ok (.putfield 9, 3) := by decide +kernel
theorem dX2_init_12 : decode cX2_init 12 = .ok (.aload_n 0, 1) := by decide +kernel
theorem dX2_init_13 : decode cX2_init 13 = .ok (.iconst 5, 1) := by decide +kernel
theorem dX2_init_14 : decode cX2_init 14 = .ok (.newarray .int, 2) := by decide +kernel
theorem dX2_init_16 : decode cX2_init 16 = .ok (.putfield 15, 3) := by decide +kernel
theorem dX2_init_19 : decode cX2_init 19 = .ok (.aload_n 0, 1) := by decide +kernel
theorem dX2_init_20 : decode cX2_init 20 = .ok (.iconst 5, 1) := by decide +kernel
theorem dX2_init_21 : decode cX2_init 21 = .ok (.newarray .int, 2) := by decide +kernel
theorem dX2_init_23 : decode cX2_init 23 = .ok (.putfield 18, 3) := by decide +kernel
theorem dX2_init_26 : decode cX2_init 26 = .ok (.aload_n 0, 1) := by decide +kernel
theorem dX2_init_27 : decode cX2_init 27 = .ok (.iconst 5, 1) := by decide +kernel
theorem dX2_init_28 : decode cX2_init 28 = .ok (.newarray .int, 2) := by decide +kernel
theorem dX2_init_30 : decode cX2_init 30 = .ok (.putfield 21, 3) := by decide +kernel
theorem dX2_init_33 : decode cX2_init 33 = .ok (.aload_n 0, 1) := by decide +kernel
theorem dX2_init_34 : decode cX2_init 34 = .ok (.iconst 5, 1) := by decide +kernel
theorem dX2_init_35 : decode cX2_init 35 = .ok (.newarray .int, 2) := by decide +kernel
theorem dX2_init_37 : decode cX2_init 37 = .ok (.putfield 24, 3) := by decide +kernel
theorem dX2_init_40 : decode cX2_init 40 = .ok (.return_, 1) := by decide +kernel
theorem dX2_become_0 : decode cX2_become 0 = .ok (.aload_n 1, 1) := by decide +kernel
theorem dX2_become_1 : decode cX2_become 1 = .ok (.getfield 9, 3) := by decide +kernel
theorem dX2_become_4 : decode cX2_become 4 = .ok (.iconst 0, 1) := by decide +kernel
theorem dX2_become_5 : decode cX2_become 5 = .ok (.aload_n 0, 1) := by decide +kernel
theorem dX2_become_6 : decode cX2_become 6 = .ok (.getfield 9, 3) := by decide +kernel
theorem dX2_become_9 : decode cX2_become 9 = .ok (.iconst 0, 1) := by decide +kernel
theorem dX2_become_10 : decode cX2_become 10 = .ok (.bipush 40, 2) := by decide +kernel
theorem dX2_become_12 : decode cX2_become 12 = .ok (.invokestatic 27, 3) := by decide +kernel
theorem dX2_become_15 : decode cX2_become 15 = .ok (.aload_n 1, 1) := by decide +kernel
theorem dX2_become_16 : decode cX2_become 16 = .ok (.getfield 15, 3) := by decide +kernel
theorem dX2_become_19 : decode cX2_become 19 = .ok (.iconst 0, 1) := by decide +kernel
theorem dX2_become_20 : decode cX2_become 20 = .ok (.aload_n 0, 1) := by decide +kernel
theorem dX2_become_21 : decode cX2_become 21 = .ok (.getfield 15, 3) := by decide +kernel
theorem dX2_become_24 : decode cX2_become 24 = .ok (.iconst 0, 1) := by decide +kernel
theorem dX2_become_25 : decode cX2_become 25 = .ok (.iconst 5, 1) := by decide +kernel
theorem dX2_become_26 : decode cX2_become 26 = .ok (.invokestatic 27, 3) := by decide +kernel
theorem dX2_become_29 : decode cX2_become 29 = .ok (.aload_n 1, 1) := by decide +kernel
theorem dX2_become_30 : decode cX2_become 30 = .ok (.getfield 18, 3) := by decide +kernel
theorem dX2_become_33 : decode cX2_become 33 = .ok (.iconst 0, 1) := by decide +kernel
theorem dX2_become_34 : decode cX2_become 34 = .ok (.aload_n 0, 1) := by decide +kernel
theorem dX2_become_35 : decode cX2_become 35 = .ok (.getfield 18, 3) := by decide +kernel
theorem dX2_become_38 : decode cX2_become 38 = .ok (.iconst 0, 1) := by decide +kernel
theorem dX2_become_39 : decode cX2_become 39 = .ok (.iconst 5, 1) := by decide +kernel
theorem dX2_become_40 : decode cX2_become 40 = .ok (.invokestatic 27, 3) := by decide +kernel
theorem dX2_become_43 : decode cX2_become 43 = .ok (.aload_n 1, 1) := by decide +kernel
theorem dX2_become_44 : decode cX2_become 44 = .ok (.getfield 21, 3) := by decide +kernel
theorem dX2_become_47 : decode cX2_become 47 = .ok (.iconst 0, 1) := by decide +kernel
theorem dX2_become_48 : decode cX2_become 48 = .ok (.aload_n 0, 1) := by decide +kernel
theorem dX2_become_49 : decode cX2_become 49 = .ok (.getfield 21, 3) := by decide +kernel
theorem dX2_become_52 : decode cX2_become 52 = .ok (.iconst 0, 1) := by decide +kernel
theorem dX2_become_53 : decode cX2_become 53 = .ok (.iconst 5, 1) := by decide +kernel
theorem dX2_become_54 : decode cX2_become 54 = .ok (.invokestatic 27, 3) := by decide +kernel
theorem dX2_become_57 : decode cX2_become 57 = .ok (.aload_n 1, 1) := by decide +kernel
theorem dX2_become_58 : decode cX2_become 58 = .ok (.getfield 24, 3) := by decide +kernel
theorem dX2_become_61 : decode cX2_become 61 = .ok (.iconst 0, 1) := by decide +kernel
theorem dX2_become_62 : decode cX2_become 62 = .ok (.aload_n 0, 1) := by decide +kernel
theorem dX2_become_63 : decode cX2_become 63 = .ok (.getfield 24, 3) := by decide +kernel
theorem dX2_become_66 : decode cX2_become 66 = .ok (.iconst 0, 1) := by decide +kernel
theorem dX2_become_67 : decode cX2_become 67 = .ok (.iconst 5, 1) := by decide +kernel
theorem dX2_become_68 : decode cX2_become 68 = .ok (.invokestatic 27, 3) := by decide +kernel
theorem dX2_become_71 : decode cX2_become 71 = .ok (.aload_n 0, 1) := by decide +kernel
theorem dX2_become_72 : decode cX2_become 72 = .ok (.aload_n 1, 1) := by decide +kernel
theorem dX2_become_73 : decode cX2_become 73 = .ok (.getfield 33, 3) := by decide +kernel
theorem dX2_become_76 : decode cX2_become 76 = .ok (.putfield 33, 3) := by decide +kernel
theorem dX2_become_79 : decode cX2_become 79 = .ok (.aload_n 0, 1) := by decide +kernel
theorem dX2_become_80 : decode cX2_become 80 = .ok (.aload_n 1, 1) := by decide +kernel
theorem dX2_become_81 : decode cX2_become 81 = .ok (.getfield 37, 3) := by decide +kernel
theorem dX2_become_84 : decode cX2_become 84 = .ok (.putfield 37, 3) := by decide +kernel
theorem dX2_become_87 : decode cX2_become 87 = .ok (.aload_n 0, 1) := by decide +kernel
theorem dX2_become_88 : decode cX2_become 88 = .ok (.aload_n 1, 1) := by decide +kernel
theorem dX2_become_89 : decode cX2_become 89 = .ok (.getfield 40, 3) := by decide +kernel
theorem dX2_become_92 : decode cX2_become 92 = .ok (.putfield 40, 3) := by decide +kernel
theorem dX2_become_95 : decode cX2_become 95 = .ok (.return_, 1) := by decide +kernel
theorem dX2_has_0 : decode cX2_has 0 = .ok (.iload_n 1, 1) := by decide +kernel
theorem dX2_has_1 : decode cX2_has 1 = .ok (.aload_n 0, 1) := by decide +kernel
theorem dX2_has_2 : decode cX2_has 2 = .ok (.getfield 33, 3) := by decide +kernel
theorem dX2_has_5 : decode cX2_has 5 = .ok (.invokestatic 43, 3) := by decide +kernel
theorem dX2_has_8 : decode cX2_has 8 = .ok (.ifCond .eq 12, 3) := by decide +kernel
theorem dX2_has_11 : decode cX2_has 11 = .ok (.iload_n 1, 1) := by decide +kernel
theorem dX2_has_12 : decode cX2_has 12 = .ok (.iconst 5, 1) := by decide +kernel
theorem dX2_has_13 : decode cX2_has 13 = .ok (.if_icmp .ge 7, 3) := by decide +kernel
theorem dX2_has_16 : decode cX2_has 16 = .ok (.iconst 1, 1) := by decide +kernel
theorem dX2_has_17 : decode cX2_has 17 = .ok (.goto 4, 3) := by decide +kernel
theorem dX2_has_20 : decode cX2_has 20 = .ok (.iconst 0, 1) := by decide +kernel
theorem dX2_has_21 : decode cX2_has 21 = .ok (.ireturn, 1) := by decide +kernel
theorem dX2_seat_0 : decode cX2_seat 0 = .ok (.aload_n 0, 1) := by decide +kernel
theorem dX2_seat_1 : decode cX2_seat 1 = .ok (.getfield 33, 3) := by decide +kernel
theorem dX2_seat_4 : decode cX2_seat 4 = .ok (.ifCond .lt 11, 3) := by decide +kernel
theorem dX2_seat_7 : decode cX2_seat 7 = .ok (.aload_n 0, 1) := by decide +kernel
theorem dX2_seat_8 : decode cX2_seat 8 = .ok (.getfield 33, 3) := by decide +kernel
theorem dX2_seat_11 : decode cX2_seat 11 = .ok (.iconst 5, 1) := by decide +kernel
theorem dX2_seat_12 : decode cX2_seat 12 = .ok (.if_icmp .lt 6, 3) := by decide +kernel
theorem dX2_seat_15 : decode cX2_seat 15 = .ok (.bipush (-4), 2) := by decide +kernel
theorem dX2_seat_17 : decode cX2_seat 17 = .ok (.ireturn, 1) := by decide +kernel
theorem dX2_seat_18 : decode cX2_seat 18 = .ok (.aload_n 0, 1) := by decide +kernel
theorem dX2_seat_19 : decode cX2_seat 19 = .ok (.getfield 15, 3) := by decide +kernel
theorem dX2_seat_22 : decode cX2_seat 22 = .ok (.aload_n 0, 1) := by decide +kernel
theorem dX2_seat_23 : decode cX2_seat 23 = .ok (.getfield 33, 3) := by decide +kernel
theorem dX2_seat_26 : decode cX2_seat 26 = .ok (.iload_n 1, 1) := by decide +kernel
theorem dX2_seat_27 : decode cX2_seat 27 = .ok (.iastore, 1) := by decide +kernel
theorem dX2_seat_28 : decode cX2_seat 28 = .ok (.aload_n 0, 1) := by decide +kernel
theorem dX2_seat_29 : decode cX2_seat 29 = .ok (.getfield 18, 3) := by decide +kernel
theorem dX2_seat_32 : decode cX2_seat 32 = .ok (.aload_n 0, 1) := by decide +kernel
theorem dX2_seat_33 : decode cX2_seat 33 = .ok (.getfield 33, 3) := by decide +kernel
theorem dX2_seat_36 : decode cX2_seat 36 = .ok (.iload_n 2, 1) := by decide +kernel
theorem dX2_seat_37 : decode cX2_seat 37 = .ok (.iastore, 1) := by decide +kernel
theorem dX2_seat_38 : decode cX2_seat 38 = .ok (.aload_n 0, 1) := by decide +kernel
theorem dX2_seat_39 : decode cX2_seat 39 = .ok (.getfield 21, 3) := by decide +kernel
theorem dX2_seat_42 : decode cX2_seat 42 = .ok (.aload_n 0, 1) := by decide +kernel
theorem dX2_seat_43 : decode cX2_seat 43 = .ok (.getfield 33, 3) := by decide +kernel
theorem dX2_seat_46 : decode cX2_seat 46 = .ok (.iload_n 3, 1) := by decide +kernel
theorem dX2_seat_47 : decode cX2_seat 47 = .ok (.iastore, 1) := by decide +kernel
theorem dX2_seat_48 : decode cX2_seat 48 = .ok (.aload_n 0, 1) := by decide +kernel
theorem dX2_seat_49 : decode cX2_seat 49 = .ok (.getfield 24, 3) := by decide +kernel
theorem dX2_seat_52 : decode cX2_seat 52 = .ok (.aload_n 0, 1) := by decide +kernel
theorem dX2_seat_53 : decode cX2_seat 53 = .ok (.getfield 33, 3) := by decide +kernel
theorem dX2_seat_56 : decode cX2_seat 56 = .ok (.iconst 0, 1) := by decide +kernel
theorem dX2_seat_57 : decode cX2_seat 57 = .ok (.iastore, 1) := by decide +kernel
theorem dX2_seat_58 : decode cX2_seat 58 = .ok (.aload_n 0, 1) := by decide +kernel
theorem dX2_seat_59 : decode cX2_seat 59 = .ok (.dup, 1) := by decide +kernel
theorem dX2_seat_60 : decode cX2_seat 60 = .ok (.getfield 33, 3) := by decide +kernel
theorem dX2_seat_63 : decode cX2_seat 63 = .ok (.iconst 1, 1) := by decide +kernel
theorem dX2_seat_64 : decode cX2_seat 64 = .ok (.iadd, 1) := by decide +kernel
theorem dX2_seat_65 : decode cX2_seat 65 = .ok (.putfield 33, 3) := by decide +kernel
theorem dX2_seat_68 : decode cX2_seat 68 = .ok (.aload_n 0, 1) := by decide +kernel
theorem dX2_seat_69 : decode cX2_seat 69 = .ok (.getfield 33, 3) := by decide +kernel
theorem dX2_seat_72 : decode cX2_seat 72 = .ok (.iconst 1, 1) := by decide +kernel
theorem dX2_seat_73 : decode cX2_seat 73 = .ok (.isub, 1) := by decide +kernel
theorem dX2_seat_74 : decode cX2_seat 74 = .ok (.ireturn, 1) := by decide +kernel
theorem dX2_angerOf_0 : decode cX2_angerOf 0 = .ok (.aload_n 0, 1) := by decide +kernel
theorem dX2_angerOf_1 : decode cX2_angerOf 1 = .ok (.iload_n 1, 1) := by decide +kernel
theorem dX2_angerOf_2 : decode cX2_angerOf 2 = .ok (.invokevirtual 47, 3) := by decide +kernel
theorem dX2_angerOf_5 : decode cX2_angerOf 5 = .ok (.ifCond .eq 12, 3) := by decide +kernel
theorem dX2_angerOf_8 : decode cX2_angerOf 8 = .ok (.aload_n 0, 1) := by decide +kernel
theorem dX2_angerOf_9 : decode cX2_angerOf 9 = .ok (.getfield 21, 3) := by decide +kernel
theorem dX2_angerOf_12 : decode cX2_angerOf 12 = .ok (.iload_n 1, 1) := by decide +kernel
theorem dX2_angerOf_13 : decode cX2_angerOf 13 = .ok (.iaload, 1) := by decide +kernel
theorem dX2_angerOf_14 : decode cX2_angerOf 14 = .ok (.goto 4, 3) := by decide +kernel
theorem dX2_angerOf_17 : decode cX2_angerOf 17 = .ok (.iconst 0, 1) := by decide +kernel
theorem dX2_angerOf_18 : decode cX2_angerOf 18 = .ok (.ireturn, 1) := by decide +kernel
theorem dX2_hear_0 : decode cX2_hear 0 = .ok (.aload_n 0, 1) := by decide +kernel
theorem dX2_hear_1 : decode cX2_hear 1 = .ok (.iload_n 1, 1) := by decide +kernel
theorem dX2_hear_2 : decode cX2_hear 2 = .ok (.invokevirtual 47, 3) := by decide +kernel
theorem dX2_hear_5 : decode cX2_hear 5 = .ok (.ifCond .eq 30, 3) := by decide +kernel
theorem dX2_hear_8 : decode cX2_hear 8 = .ok (.aload_n 0, 1) := by decide +kernel
theorem dX2_hear_9 : decode cX2_hear 9 = .ok (.getfield 21, 3) := by decide +kernel
theorem dX2_hear_12 : decode cX2_hear 12 = .ok (.iload_n 1, 1) := by decide +kernel
theorem dX2_hear_13 : decode cX2_hear 13 = .ok (.iload_n 2, 1) := by decide +kernel
theorem dX2_hear_14 : decode cX2_hear 14 = .ok (.iastore, 1) := by decide +kernel
theorem dX2_hear_15 : decode cX2_hear 15 = .ok (.aload_n 0, 1) := by decide +kernel
theorem dX2_hear_16 : decode cX2_hear 16 = .ok (.getfield 24, 3) := by decide +kernel
theorem dX2_hear_19 : decode cX2_hear 19 = .ok (.iload_n 1, 1) := by decide +kernel
theorem dX2_hear_20 : decode cX2_hear 20 = .ok (.sipush 9999, 3) := by decide +kernel
theorem dX2_hear_23 : decode cX2_hear 23 = .ok (.aload_n 0, 1) := by decide +kernel
theorem dX2_hear_24 : decode cX2_hear 24 = .ok (.getfield 24, 3) := by decide +kernel
theorem dX2_hear_27 : decode cX2_hear 27 = .ok (.iload_n 1, 1) := by decide +kernel
theorem dX2_hear_28 : decode cX2_hear 28 = .ok (.iaload, 1) := by decide +kernel
theorem dX2_hear_29 : decode cX2_hear 29 = .ok (.iconst 1, 1) := by decide +kernel
theorem dX2_hear_30 : decode cX2_hear 30 = .ok (.iadd, 1) := by decide +kernel
theorem dX2_hear_31 : decode cX2_hear 31 = .ok (.invokestatic 51, 3) := by decide +kernel
theorem dX2_hear_34 : decode cX2_hear 34 = .ok (.iastore, 1) := by decide +kernel
theorem dX2_hear_35 : decode cX2_hear 35 = .ok (.return_, 1) := by decide +kernel
theorem dX2_toldOfAll_0 : decode cX2_toldOfAll 0 = .ok (.iconst 0, 1) := by decide +kernel
theorem dX2_toldOfAll_1 : decode cX2_toldOfAll 1 = .ok (.istore_n 1, 1) := by decide +kernel
theorem dX2_toldOfAll_2 : decode cX2_toldOfAll 2 = .ok (.iconst 0, 1) := by decide +kernel
theorem dX2_toldOfAll_3 : decode cX2_toldOfAll 3 = .ok (.istore_n 2, 1) := by decide +kernel
theorem dX2_toldOfAll_4 : decode cX2_toldOfAll 4 = .ok (.iload_n 2, 1) := by decide +kernel
theorem dX2_toldOfAll_5 : decode cX2_toldOfAll 5 = .ok (.aload_n 0, 1) := by decide +kernel
theorem dX2_toldOfAll_6 : decode cX2_toldOfAll 6 = .ok (.getfield 33, 3) := by decide +kernel
theorem dX2_toldOfAll_9 : decode cX2_toldOfAll 9 = .ok (.if_icmp .ge 23, 3) := by decide +kernel
theorem dX2_toldOfAll_12 : decode cX2_toldOfAll 12 = .ok (.iload_n 2, 1) := by decide +kernel
theorem dX2_toldOfAll_13 : decode cX2_toldOfAll 13 = .ok (.iconst 5, 1) := by decide +kernel
theorem dX2_toldOfAll_14 : decode cX2_toldOfAll 14 = .ok (.if_icmp .ge 18, 3) := by decide +kernel
theorem dX2_toldOfAll_17 : decode cX2_toldOfAll 17 = .ok (.iload_n 1, 1) := by decide +kernel
theorem dX2_toldOfAll_18 : decode cX2_toldOfAll 18 = .ok (.aload_n 0, 1) := by decide +kernel
theorem dX2_toldOfAll_19 : decode cX2_toldOfAll 19 = .ok (.getfield 24, 3) := by decide +kernel
theorem dX2_toldOfAll_22 : decode cX2_toldOfAll 22 = .ok (.iload_n 2, 1) := by decide +kernel
theorem dX2_toldOfAll_23 : decode cX2_toldOfAll 23 = .ok (.iaload, 1) := by decide +kernel
theorem dX2_toldOfAll_24 : decode cX2_toldOfAll 24 = .ok (.iadd, 1) := by decide +kernel
theorem dX2_toldOfAll_25 : decode cX2_toldOfAll 25 = .ok (.istore_n 1, 1) := by decide +kernel
theorem dX2_toldOfAll_26 : decode cX2_toldOfAll 26 = .ok (.iinc 2 1, 3) := by decide +kernel
theorem dX2_toldOfAll_29 : decode cX2_toldOfAll 29 = .ok (.goto (-25), 3) := by decide +kernel
theorem dX2_toldOfAll_32 : decode cX2_toldOfAll 32 = .ok (.iload_n 1, 1) := by decide +kernel
theorem dX2_toldOfAll_33 : decode cX2_toldOfAll 33 = .ok (.ireturn, 1) := by decide +kernel
theorem dX2_milesWithThing_0 : decode cX2_milesWithThing 0 = .ok (.lconst 0, 1) := by decide +kernel
theorem dX2_milesWithThing_1 : decode cX2_milesWithThing 1 = .ok (.lstore_n 1, 1) := by decide +kernel
theorem dX2_milesWithThing_2 : decode cX2_milesWithThing 2 = .ok (.iconst 0, 1) := by decide +kernel
theorem dX2_milesWithThing_3 : decode cX2_milesWithThing 3 = .ok (.istore_n 3, 1) := by decide +kernel
theorem dX2_milesWithThing_4 : decode cX2_milesWithThing 4 = .ok (.iload_n 3, 1) := by decide +kernel
theorem dX2_milesWithThing_5 : decode cX2_milesWithThing 5 = .ok (.bipush 40, 2) := by decide +kernel
theorem dX2_milesWithThing_7 : decode cX2_milesWithThing 7 = .ok (.if_icmp .ge 28, 3) := by decide +kernel
theorem dX2_milesWithThing_10 : decode cX2_milesWithThing 10 = .ok (.lload_n 1, 1) := by decide +kernel
theorem dX2_milesWithThing_11 : decode cX2_milesWithThing 11 = .ok (.aload_n 0, 1) := by decide +kernel
theorem dX2_milesWithThing_12 : decode cX2_milesWithThing 12 = .ok (.getfield 9, 3) := by decide +kernel
theorem dX2_milesWithThing_15 : decode cX2_milesWithThing 15 = .ok (.iload_n 3, 1) := by decide +kernel
theorem dX2_milesWithThing_16 : decode cX2_milesWithThing 16 = .ok (.iaload, 1) := by decide +kernel
theorem dX2_milesWithThing_17 : decode cX2_milesWithThing 17 = .ok (.ifCond .eq 9, 3) := by decide +kernel
theorem dX2_milesWithThing_20 : decode cX2_milesWithThing 20 = .ok (.lconst 1, 1) := by decide +kernel
theorem dX2_milesWithThing_21 : decode cX2_milesWithThing 21 = .ok (.iload_n 3, 1) := by decide +kernel
theorem dX2_milesWithThing_22 : decode cX2_milesWithThing 22 = .ok (.lshl, 1) := by decide +kernel
theorem dX2_milesWithThing_23 : decode cX2_milesWithThing 23 = .ok (.goto 4, 3) := by decide +kernel
theorem dX2_milesWithThing_26 : decode cX2_milesWithThing 26 = .ok (.lconst 0, 1) := by decide +kernel
theorem dX2_milesWithThing_27 : decode cX2_milesWithThing 27 = .ok (.lor, 1) := by decide +kernel
theorem dX2_milesWithThing_28 : decode cX2_milesWithThing 28 = .ok (.lstore_n 1, 1) := by decide +kernel
theorem dX2_milesWithThing_29 : decode cX2_milesWithThing 29 = .ok (.iinc 3 1, 3) := by decide +kernel
theorem dX2_milesWithThing_32 : decode cX2_milesWithThing 32 = .ok (.goto (-28), 3) := by decide +kernel
theorem dX2_milesWithThing_35 : decode cX2_milesWithThing 35 = .ok (.lload_n 1, 1) := by decide +kernel
theorem dX2_milesWithThing_36 : decode cX2_milesWithThing 36 = .ok (.lreturn, 1) := by decide +kernel
theorem dX2_furthestMileWithThing_0 : decode cX2_furthestMileWithThing 0 = .ok (.iload_n 1, 1) := by decide +kernel
theorem dX2_furthestMileWithThing_1 : decode cX2_furthestMileWithThing 1 = .ok (.bipush 40, 2) := by decide +kernel
theorem dX2_furthestMileWithThing_3 : decode cX2_furthestMileWithThing 3 = .ok (.invokestatic 51, 3) := by decide +kernel
theorem dX2_furthestMileWithThing_6 : decode cX2_furthestMileWithThing 6 = .ok (.iconst 1, 1) := by decide +kernel
theorem dX2_furthestMileWithThing_7 : decode cX2_furthestMileWithThing 7 = .ok (.isub, 1) := by decide +kernel
theorem dX2_furthestMileWithThing_8 : decode cX2_furthestMileWithThing 8 = .ok (.istore_n 2, 1) := by decide +kernel
theorem dX2_furthestMileWithThing_9 : decode cX2_furthestMileWithThing 9 = .ok (.iload_n 2, 1) := by decide +kernel
theorem dX2_furthestMileWithThing_10 : decode cX2_furthestMileWithThing 10 = .ok (.ifCond .lt 20, 3) := by decide +kernel
theorem dX2_furthestMileWithThing_13 : decode cX2_furthestMileWithThing 13 = .ok (.aload_n 0, 1) := by decide +kernel
theorem dX2_furthestMileWithThing_14 : decode cX2_furthestMileWithThing 14 = .ok (.getfield 9, 3) := by decide +kernel
theorem dX2_furthestMileWithThing_17 : decode cX2_furthestMileWithThing 17 = .ok (.iload_n 2, 1) := by decide +kernel
theorem dX2_furthestMileWithThing_18 : decode cX2_furthestMileWithThing 18 = .ok (.iaload, 1) := by decide +kernel
theorem dX2_furthestMileWithThing_19 : decode cX2_furthestMileWithThing 19 = .ok (.ifCond .eq 5, 3) := by decide +kernel
theorem dX2_furthestMileWithThing_22 : decode cX2_furthestMileWithThing 22 = .ok (.iload_n 2, 1) := by decide +kernel
theorem dX2_furthestMileWithThing_23 : decode cX2_furthestMileWithThing 23 = .ok (.ireturn, 1) := by decide +kernel
theorem dX2_furthestMileWithThing_24 : decode cX2_furthestMileWithThing 24 = .ok (.iinc 2 (-1), 3) := by decide +kernel
theorem dX2_furthestMileWithThing_27 : decode cX2_furthestMileWithThing 27 = .ok (.goto (-18), 3) := by decide +kernel
theorem dX2_furthestMileWithThing_30 : decode cX2_furthestMileWithThing 30 = .ok (.iconst (-1), 1) := by decide +kernel
theorem dX2_furthestMileWithThing_31 : decode cX2_furthestMileWithThing 31 = .ok (.ireturn, 1) := by decide +kernel
theorem dX2_furthestThing_0 : decode cX2_furthestThing 0 = .ok (.aload_n 0, 1) := by decide +kernel
theorem dX2_furthestThing_1 : decode cX2_furthestThing 1 = .ok (.iload_n 1, 1) := by decide +kernel
theorem dX2_furthestThing_2 : decode cX2_furthestThing 2 = .ok (.invokevirtual 57, 3) := by decide +kernel
theorem dX2_furthestThing_5 : decode cX2_furthestThing 5 = .ok (.istore_n 2, 1) := by decide +kernel
theorem dX2_furthestThing_6 : decode cX2_furthestThing 6 = .ok (.iload_n 2, 1) := by decide +kernel
theorem dX2_furthestThing_7 : decode cX2_furthestThing 7 = .ok (.bipush 40, 2) := by decide +kernel
theorem dX2_furthestThing_9 : decode cX2_furthestThing 9 = .ok (.invokestatic 43, 3) := by decide +kernel
theorem dX2_furthestThing_12 : decode cX2_furthestThing 12 = .ok (.ifCond .eq 12, 3) := by decide +kernel
theorem dX2_furthestThing_15 : decode cX2_furthestThing 15 = .ok (.aload_n 0, 1) := by decide +kernel
theorem dX2_furthestThing_16 : decode cX2_furthestThing 16 = .ok (.getfield 9, 3) := by decide +kernel
theorem dX2_furthestThing_19 : decode cX2_furthestThing 19 = .ok (.iload_n 2, 1) := by decide +kernel
theorem dX2_furthestThing_20 : decode cX2_furthestThing 20 = .ok (.iaload, 1) := by decide +kernel
theorem dX2_furthestThing_21 : decode cX2_furthestThing 21 = .ok (.goto 4, 3) := by decide +kernel
theorem dX2_furthestThing_24 : decode cX2_furthestThing 24 = .ok (.iconst 0, 1) := by decide +kernel
theorem dX2_furthestThing_25 : decode cX2_furthestThing 25 = .ok (.ireturn, 1) := by decide +kernel
theorem dX3_init_0 : decode cX3_init 0 = .ok (.aload_n 0, 1) := by decide +kernel
theorem dX3_init_1 : decode cX3_init 1 = .ok (.invokespecial 3, 3) := by decide +kernel
theorem dX3_init_4 : decode cX3_init 4 = .ok (.aload_n 0, 1) := by decide +kernel
theorem dX3_init_5 : decode cX3_init 5 = .ok (.bipush 40, 2) := by decide +kernel
theorem dX3_init_7 : decode cX3_init 7 = .ok (.newarray .int, 2) := by decide +kernel
theorem dX3_init_9 : decode cX3_init 9 = .ok (.putfield 9, 3) := by decide +kernel
theorem dX3_init_12 : decode cX3_init 12 = .ok (.aload_n 0, 1) := by decide +kernel
theorem dX3_init_13 : decode cX3_init 13 = .ok (.iconst (-1), 1) := by decide +kernel
theorem dX3_init_14 : decode cX3_init 14 = .ok (.putfield 15, 3) := by decide +kernel
theorem dX3_init_17 : decode cX3_init 17 = .ok (.return_, 1) := by decide +kernel
theorem dX3_missing_0 : decode cX3_missing 0 = .ok (.aload_n 0, 1) := by decide +kernel
theorem dX3_missing_1 : decode cX3_missing 1 = .ok (.getfield 15, 3) := by decide +kernel
theorem dX3_missing_4 : decode cX3_missing 4 = .ok (.iconst (-1), 1) := by decide +kernel
theorem dX3_missing_5 : decode cX3_missing 5 = .ok (.if_icmp .ne 7, 3) := by decide +kernel
theorem dX3_missing_8 : decode cX3_missing 8 = .ok (.iconst 1, 1) := by decide +kernel
theorem dX3_missing_9 : decode cX3_missing 9 = .ok (.goto 4, 3) := by decide +kernel
theorem dX3_missing_12 : decode cX3_missing 12 = .ok (.iconst 0, 1) := by decide +kernel
theorem dX3_missing_13 : decode cX3_missing 13 = .ok (.ireturn, 1) := by decide +kernel
theorem dX3_become_0 : decode cX3_become 0 = .ok (.aload_n 0, 1) := by decide +kernel
theorem dX3_become_1 : decode cX3_become 1 = .ok (.iload_n 1, 1) := by decide +kernel
theorem dX3_become_2 : decode cX3_become 2 = .ok (.putfield 15, 3) := by decide +kernel
theorem dX3_become_5 : decode cX3_become 5 = .ok (.aload_n 0, 1) := by decide +kernel
theorem dX3_become_6 : decode cX3_become 6 = .ok (.iload_n 2, 1) := by decide +kernel
theorem dX3_become_7 : decode cX3_become 7 = .ok (.iconst 0, 1) := by decide +kernel
theorem dX3_become_8 : decode cX3_become 8 = .ok (.bipush 40, 2) := by decide +kernel
theorem dX3_become_10 : decode cX3_become 10 = .ok (.invokestatic 19, 3) := by decide +kernel
theorem dX3_become_13 : decode cX3_become 13 = .ok (.putfield 23, 3) := by decide +kernel
theorem dX3_become_16 : decode cX3_become 16 = .ok (.aload_n 0, 1) := by decide +kernel
theorem dX3_become_17 : decode cX3_become 17 = .ok (.getfield 9, 3) := by decide +kernel
theorem dX3_become_20 : decode cX3_become 20 = .ok (.iconst 0, 1) := by decide +kernel
theorem dX3_become_21 : decode cX3_become 21 = .ok (.invokestatic 26, 3) := by decide +kernel
theorem dX3_become_24 : decode cX3_become 24 = .ok (.return_, 1) := by decide +kernel
theorem dX3_holds_0 : decode cX3_holds 0 = .ok (.iload_n 2, 1) := by decide +kernel
theorem dX3_holds_1 : decode cX3_holds 1 = .ok (.ifCond .lt 29, 3) := by decide +kernel
theorem dX3_holds_4 : decode cX3_holds 4 = .ok (.iload_n 1, 1) := by decide +kernel
theorem dX3_holds_5 : decode cX3_holds 5 = .ok (.ifCond .lt 25, 3) := by decide +kernel
theorem dX3_holds_8 : decode cX3_holds 8 = .ok (.iload_n 2, 1) := by decide +kernel
theorem dX3_holds_9 : decode cX3_holds 9 = .ok (.aload_n 0, 1) := by decide +kernel
theorem dX3_holds_10 : decode cX3_holds 10 = .ok (.getfield 23, 3) := by decide +kernel
theorem dX3_holds_13 : decode cX3_holds 13 = .ok (.if_icmp .gt 17, 3) := by decide +kernel
theorem dX3_holds_16 : decode cX3_holds 16 = .ok (.iload_n 1, 1) := by decide +kernel
theorem dX3_holds_17 : decode cX3_holds 17 = .ok (.aload_n 0, 1) := by decide +kernel
theorem dX3_holds_18 : decode cX3_holds 18 = .ok (.getfield 23, 3) := by decide +kernel
theorem dX3_holds_21 : decode cX3_holds 21 = .ok (.iload_n 2, 1) := by decide +kernel
theorem dX3_holds_22 : decode cX3_holds 22 = .ok (.isub, 1) := by decide +kernel
theorem dX3_holds_23 : decode cX3_holds 23 = .ok (.if_icmp .gt 7, 3) := by decide +kernel
theorem dX3_holds_26 : decode cX3_holds 26 = .ok (.iconst 1, 1) := by decide +kernel
theorem dX3_holds_27 : decode cX3_holds 27 = .ok (.goto 4, 3) := by decide +kernel
theorem dX3_holds_30 : decode cX3_holds 30 = .ok (.iconst 0, 1) := by decide +kernel
theorem dX3_holds_31 : decode cX3_holds 31 = .ok (.ireturn, 1) := by decide +kernel
theorem dX3_at_0 : decode cX3_at 0 = .ok (.iload_n 1, 1) := by decide +kernel
theorem dX3_at_1 : decode cX3_at 1 = .ok (.aload_n 0, 1) := by decide +kernel
theorem dX3_at_2 : decode cX3_at 2 = .ok (.getfield 23, 3) := by decide +kernel
theorem dX3_at_5 : decode cX3_at 5 = .ok (.invokestatic 32, 3) := by decide +kernel
theorem dX3_at_8 : decode cX3_at 8 = .ok (.ifCond .eq 18, 3) := by decide +kernel
theorem dX3_at_11 : decode cX3_at 11 = .ok (.iload_n 1, 1) := by decide +kernel
theorem dX3_at_12 : decode cX3_at 12 = .ok (.bipush 40, 2) := by decide +kernel
theorem dX3_at_14 : decode cX3_at 14 = .ok (.if_icmp .ge 12, 3) := by decide +kernel
theorem dX3_at_17 : decode cX3_at 17 = .ok (.aload_n 0, 1) := by decide +kernel
theorem dX3_at_18 : decode cX3_at 18 = .ok (.getfield 9, 3) := by decide +kernel
theorem dX3_at_21 : decode cX3_at 21 = .ok (.iload_n 1, 1) := by decide +kernel
theorem dX3_at_22 : decode cX3_at 22 = .ok (.iaload, 1) := by decide +kernel
theorem dX3_at_23 : decode cX3_at 23 = .ok (.goto 4, 3) := by decide +kernel
theorem dX3_at_26 : decode cX3_at 26 = .ok (.iconst 0, 1) := by decide +kernel
theorem dX3_at_27 : decode cX3_at 27 = .ok (.ireturn, 1) := by decide +kernel
theorem dX3_put_0 : decode cX3_put 0 = .ok (.iload_n 1, 1) := by decide +kernel
theorem dX3_put_1 : decode cX3_put 1 = .ok (.aload_n 0, 1) := by decide +kernel
theorem dX3_put_2 : decode cX3_put 2 = .ok (.getfield 23, 3) := by decide +kernel
theorem dX3_put_5 : decode cX3_put 5 = .ok (.invokestatic 32, 3) := by decide +kernel
theorem dX3_put_8 : decode cX3_put 8 = .ok (.ifCond .eq 9, 3) := by decide +kernel
theorem dX3_put_11 : decode cX3_put 11 = .ok (.iload_n 1, 1) := by decide +kernel
theorem dX3_put_12 : decode cX3_put 12 = .ok (.bipush 40, 2) := by decide +kernel
theorem dX3_put_14 : decode cX3_put 14 = .ok (.if_icmp .lt 5, 3) := by decide +kernel
theorem dX3_put_17 : decode cX3_put 17 = .ok (.iconst 0, 1) := by decide +kernel
theorem dX3_put_18 : decode cX3_put 18 = .ok (.ireturn, 1) := by decide +kernel
theorem dX3_put_19 : decode cX3_put 19 = .ok (.aload_n 0, 1) := by decide +kernel
theorem dX3_put_20 : decode cX3_put 20 = .ok (.getfield 9, 3) := by decide +kernel
theorem dX3_put_23 : decode cX3_put 23 = .ok (.iload_n 1, 1) := by decide +kernel
theorem dX3_put_24 : decode cX3_put 24 = .ok (.aload_n 0, 1) := by decide +kernel
theorem dX3_put_25 : decode cX3_put 25 = .ok (.iload_n 2, 1) := by decide +kernel
theorem dX3_put_26 : decode cX3_put 26 = .ok (.invokevirtual 36, 3) := by decide +kernel
theorem dX3_put_29 : decode cX3_put 29 = .ok (.iastore, 1) := by decide +kernel
theorem dX3_put_30 : decode cX3_put 30 = .ok (.iconst 1, 1) := by decide +kernel
theorem dX3_put_31 : decode cX3_put 31 = .ok (.ireturn, 1) := by decide +kernel
theorem dX3_cut_0 : decode cX3_cut 0 = .ok (.aload_n 0, 1) := by decide +kernel
theorem dX3_cut_1 : decode cX3_cut 1 = .ok (.getfield 15, 3) := by decide +kernel
theorem dX3_cut_4 : decode cX3_cut 4 = .ok (.ifCond .ne 6, 3) := by decide +kernel
theorem dX3_cut_7 : decode cX3_cut 7 = .ok (.iload_n 1, 1) := by decide +kernel
theorem dX3_cut_8 : decode cX3_cut 8 = .ok (.i2b, 1) := by decide +kernel
theorem dX3_cut_9 : decode cX3_cut 9 = .ok (.ireturn, 1) := by decide +kernel
theorem dX3_cut_10 : decode cX3_cut 10 = .ok (.aload_n 0, 1) := by decide +kernel
theorem dX3_cut_11 : decode cX3_cut 11 = .ok (.getfield 15, 3) := by decide +kernel
theorem dX3_cut_14 : decode cX3_cut 14 = .ok (.iconst 1, 1) := by decide +kernel
theorem dX3_cut_15 : decode cX3_cut 15 = .ok (.if_icmp .ne 8, 3) := by decide +kernel
theorem dX3_cut_18 : decode cX3_cut 18 = .ok (.iload_n 1, 1) := by decide +kernel
theorem dX3_cut_19 : decode cX3_cut 19 = .ok (.i2s, 1) := by decide +kernel
theorem dX3_cut_20 : decode cX3_cut 20 = .ok (.goto 4, 3) := by decide +kernel
theorem dX3_cut_23 : decode cX3_cut 23 = .ok (.iload_n 1, 1) := by decide +kernel
theorem dX3_cut_24 : decode cX3_cut 24 = .ok (.ireturn, 1) := by decide +kernel
theorem dX4_init_0 : decode cX4_init 0 = .ok (.aload_n 0, 1) := by decide +kernel
theorem dX4_init_1 : decode cX4_init 1 = .ok (.invokespecial 3, 3) := by decide +kernel
theorem dX4_init_4 : decode cX4_init 4 = .ok (.aload_n 0, 1) := by decide +kernel
theorem dX4_init_5 : decode cX4_init 5 = .ok (.bipush 6, 2) := by decide +kernel
theorem dX4_init_7 : decode cX4_init 7 = .ok (.newarray .int, 2) := by decide +kernel
theorem dX4_init_9 : decode cX4_init 9 = .ok (.putfield 9, 3) := by decide +kernel
theorem dX4_init_12 : decode cX4_init 12 = .ok (.aload_n 0, 1) := by decide +kernel
theorem dX4_init_13 : decode cX4_init 13 = .ok (.aload_n 1, 1) := by decide +kernel
theorem dX4_init_14 : decode cX4_init 14 = .ok (.putfield 15, 3) := by decide +kernel
theorem dX4_init_17 : decode cX4_init 17 = .ok (.return_, 1) := by decide +kernel
theorem dX4_of_0 : decode cX4_of 0 = .ok (.aload_n 1, 1) := by decide +kernel
theorem dX4_of_1 : decode cX4_of 1 = .ok (.iload_n 2, 1) := by decide +kernel
theorem dX4_of_2 : decode cX4_of 2 = .ok (.invokevirtual 19, 3) := by decide +kernel
theorem dX4_of_5 : decode cX4_of 5 = .ok (.ifCond .ne 4, 3) := by decide +kernel
theorem dX4_of_8 : decode cX4_of 8 = .ok (.return_, 1) := by decide +kernel
theorem dX4_of_9 : decode cX4_of 9 = .ok (.aload_n 0, 1) := by decide +kernel
theorem dX4_of_10 : decode cX4_of 10 = .ok (.aload_n 1, 1) := by decide +kernel
theorem dX4_of_11 : decode cX4_of 11 = .ok (.getfield 25, 3) := by decide +kernel
theorem dX4_of_14 : decode cX4_of 14 = .ok (.putfield 29, 3) := by decide +kernel
theorem dX4_of_17 : decode cX4_of 17 = .ok (.aload_n 0, 1) := by decide +kernel
theorem dX4_of_18 : decode cX4_of 18 = .ok (.aload_n 1, 1) := by decide +kernel
theorem dX4_of_19 : decode cX4_of 19 = .ok (.getfield 30, 3) := by decide +kernel
theorem dX4_of_22 : decode cX4_of 22 = .ok (.iload_n 2, 1) := by decide +kernel
theorem dX4_of_23 : decode cX4_of 23 = .ok (.iaload, 1) := by decide +kernel
theorem dX4_of_24 : decode cX4_of 24 = .ok (.putfield 33, 3) := by decide +kernel
theorem dX4_of_27 : decode cX4_of 27 = .ok (.aload_n 0, 1) := by decide +kernel
theorem dX4_of_28 : decode cX4_of 28 = .ok (.getfield 9, 3) := by decide +kernel
theorem dX4_of_31 : decode cX4_of 31 = .ok (.iconst 2, 1) := by decide +kernel
theorem dX4_of_32 : decode cX4_of 32 = .ok (.aload_n 1, 1) := by decide +kernel
theorem dX4_of_33 : decode cX4_of 33 = .ok (.getfield 36, 3) := by decide +kernel
theorem dX4_of_36 : decode cX4_of 36 = .ok (.iload_n 2, 1) := by decide +kernel
theorem dX4_of_37 : decode cX4_of 37 = .ok (.iaload, 1) := by decide +kernel
theorem dX4_of_38 : decode cX4_of 38 = .ok (.iastore, 1) := by decide +kernel
theorem dX4_of_39 : decode cX4_of 39 = .ok (.aload_n 0, 1) := by decide +kernel
theorem dX4_of_40 : decode cX4_of 40 = .ok (.getfield 9, 3) := by decide +kernel
theorem dX4_of_43 : decode cX4_of 43 = .ok (.iconst 3, 1) := by decide +kernel
theorem dX4_of_44 : decode cX4_of 44 = .ok (.aload_n 1, 1) := by decide +kernel
theorem dX4_of_45 : decode cX4_of 45 = .ok (.getfield 39, 3) := by decide +kernel
theorem dX4_of_48 : decode cX4_of 48 = .ok (.iastore, 1) := by decide +kernel
theorem dX4_of_49 : decode cX4_of 49 = .ok (.aload_n 0, 1) := by decide +kernel
theorem dX4_of_50 : decode cX4_of 50 = .ok (.getfield 9, 3) := by decide +kernel
theorem dX4_of_53 : decode cX4_of 53 = .ok (.iconst 4, 1) := by decide +kernel
theorem dX4_of_54 : decode cX4_of 54 = .ok (.aload_n 1, 1) := by decide +kernel
theorem dX4_of_55 : decode cX4_of 55 = .ok (.invokevirtual 42, 3) := by decide +kernel
theorem dX4_of_58 : decode cX4_of 58 = .ok (.invokestatic 46, 3) := by decide +kernel
theorem dX4_of_61 : decode cX4_of 61 = .ok (.iastore, 1) := by decide +kernel
theorem dX4_of_62 : decode cX4_of 62 = .ok (.aload_n 0, 1) := by decide +kernel
theorem dX4_of_63 : decode cX4_of 63 = .ok (.getfield 9, 3) := by decide +kernel
theorem dX4_of_66 : decode cX4_of 66 = .ok (.iconst 5, 1) := by decide +kernel
theorem dX4_of_67 : decode cX4_of 67 = .ok (.aload_n 1, 1) := by decide +kernel
theorem dX4_of_68 : decode cX4_of 68 = .ok (.getfield 52, 3) := by decide +kernel
theorem dX4_of_71 : decode cX4_of 71 = .ok (.iastore, 1) := by decide +kernel
theorem dX4_of_72 : decode cX4_of 72 = .ok (.return_, 1) := by decide +kernel
theorem dX4_renumber_0 : decode cX4_renumber 0 = .ok (.aload_n 0, 1) := by decide +kernel
theorem dX4_renumber_1 : decode cX4_renumber 1 = .ok (.getfield 9, 3) := by decide +kernel
theorem dX4_renumber_4 : decode cX4_renumber 4 = .ok (.iconst 2, 1) := by decide +kernel
theorem dX4_renumber_5 : decode cX4_renumber 5 = .ok (.iload_n 1, 1) := by decide +kernel
theorem dX4_renumber_6 : decode cX4_renumber 6 = .ok (.iastore, 1) := by decide +kernel
theorem dX4_renumber_7 : decode cX4_renumber 7 = .ok (.return_, 1) := by decide +kernel
theorem dX4_heats_0 : decode cX4_heats 0 = .ok (.aload_n 0, 1) := by decide +kernel
theorem dX4_heats_1 : decode cX4_heats 1 = .ok (.getfield 9, 3) := by decide +kernel
theorem dX4_heats_4 : decode cX4_heats 4 = .ok (.iconst 1, 1) := by decide +kernel
theorem dX4_heats_5 : decode cX4_heats 5 = .ok (.iload_n 1, 1) := by decide +kernel
theorem dX4_heats_6 : decode cX4_heats 6 = .ok (.iastore, 1) := by decide +kernel
theorem dX4_heats_7 : decode cX4_heats 7 = .ok (.aload_n 0, 1) := by decide +kernel
theorem dX4_heats_8 : decode cX4_heats 8 = .ok (.getfield 9, 3) := by decide +kernel
theorem dX4_heats_11 : decode cX4_heats 11 = .ok (.iconst 0, 1) := by decide +kernel
theorem dX4_heats_12 : decode cX4_heats 12 = .ok (.iload_n 2, 1) := by decide +kernel
theorem dX4_heats_13 : decode cX4_heats 13 = .ok (.iastore, 1) := by decide +kernel
theorem dX4_heats_14 : decode cX4_heats 14 = .ok (.aload_n 0, 1) := by decide +kernel
theorem dX4_heats_15 : decode cX4_heats 15 = .ok (.getfield 15, 3) := by decide +kernel
theorem dX4_heats_18 : decode cX4_heats 18 = .ok (.aload_n 0, 1) := by decide +kernel
theorem dX4_heats_19 : decode cX4_heats 19 = .ok (.getfield 29, 3) := by decide +kernel
theorem dX4_heats_22 : decode cX4_heats 22 = .ok (.iconst 0, 1) := by decide +kernel
theorem dX4_heats_23 : decode cX4_heats 23 = .ok (.aload_n 0, 1) := by decide +kernel
theorem dX4_heats_24 : decode cX4_heats 24 = .ok (.getfield 9, 3) := by decide +kernel
theorem dX4_heats_27 : decode cX4_heats 27 = .ok (.invokevirtual 55, 3) := by decide +kernel
theorem dX4_heats_30 : decode cX4_heats 30 = .ok (.bipush (-99), 2) := by decide +kernel
theorem dX4_heats_32 : decode cX4_heats 32 = .ok (.bipush 99, 2) := by decide +kernel
theorem dX4_heats_34 : decode cX4_heats 34 = .ok (.invokestatic 61, 3) := by decide +kernel
theorem dX4_heats_37 : decode cX4_heats 37 = .ok (.istore_n 3, 1) := by decide +kernel
theorem dX4_heats_38 : decode cX4_heats 38 = .ok (.aload_n 0, 1) := by decide +kernel
theorem dX4_heats_39 : decode cX4_heats 39 = .ok (.iload_n 3, 1) := by decide +kernel
theorem dX4_heats_40 : decode cX4_heats 40 = .ok (.iload_n 1, 1) := by decide +kernel
theorem dX4_heats_41 : decode cX4_heats 41 = .ok (.iload_n 2, 1) := by decide +kernel
theorem dX4_heats_42 : decode cX4_heats 42 = .ok (.invokevirtual 65, 3) := by decide +kernel
theorem dX4_heats_45 : decode cX4_heats 45 = .ok (.bipush (-99), 2) := by decide +kernel
theorem dX4_heats_47 : decode cX4_heats 47 = .ok (.bipush 99, 2) := by decide +kernel
theorem dX4_heats_49 : decode cX4_heats 49 = .ok (.invokestatic 61, 3) := by decide +kernel
theorem dX4_heats_52 : decode cX4_heats 52 = .ok (.ireturn, 1) := by decide +kernel
theorem dX4_cools_0 : decode cX4_cools 0 = .ok (.aload_n 0, 1) := by decide +kernel
theorem dX4_cools_1 : decode cX4_cools 1 = .ok (.getfield 9, 3) := by decide +kernel
theorem dX4_cools_4 : decode cX4_cools 4 = .ok (.iconst 1, 1) := by decide +kernel
theorem dX4_cools_5 : decode cX4_cools 5 = .ok (.iload_n 1, 1) := by decide +kernel
theorem dX4_cools_6 : decode cX4_cools 6 = .ok (.iastore, 1) := by decide +kernel
theorem dX4_cools_7 : decode cX4_cools 7 = .ok (.aload_n 0, 1) := by decide +kernel
theorem dX4_cools_8 : decode cX4_cools 8 = .ok (.getfield 9, 3) := by decide +kernel
theorem dX4_cools_11 : decode cX4_cools 11 = .ok (.iconst 0, 1) := by decide +kernel
theorem dX4_cools_12 : decode cX4_cools 12 = .ok (.iconst 0, 1) := by decide +kernel
theorem dX4_cools_13 : decode cX4_cools 13 = .ok (.iastore, 1) := by decide +kernel
theorem dX4_cools_14 : decode cX4_cools 14 = .ok (.aload_n 0, 1) := by decide +kernel
theorem dX4_cools_15 : decode cX4_cools 15 = .ok (.getfield 15, 3) := by decide +kernel
theorem dX4_cools_18 : decode cX4_cools 18 = .ok (.aload_n 0, 1) := by decide +kernel
theorem dX4_cools_19 : decode cX4_cools 19 = .ok (.getfield 29, 3) := by decide +kernel
theorem dX4_cools_22 : decode cX4_cools 22 = .ok (.iconst 1, 1) := by decide +kernel
theorem dX4_cools_23 : decode cX4_cools 23 = .ok (.aload_n 0, 1) := by decide +kernel
theorem dX4_cools_24 : decode cX4_cools 24 = .ok (.getfield 9, 3) := by decide +kernel
theorem dX4_cools_27 : decode cX4_cools 27 = .ok (.invokevirtual 55, 3) := by decide +kernel
theorem dX4_cools_30 : decode cX4_cools 30 = .ok (.iconst 0, 1) := by decide +kernel
theorem dX4_cools_31 : decode cX4_cools 31 = .ok (.bipush 99, 2) := by decide +kernel
theorem dX4_cools_33 : decode cX4_cools 33 = .ok (.invokestatic 61, 3) := by decide +kernel
theorem dX4_cools_36 : decode cX4_cools 36 = .ok (.istore_n 2, 1) := by decide +kernel
theorem dX4_cools_37 : decode cX4_cools 37 = .ok (.aload_n 0, 1) := by decide +kernel
theorem dX4_cools_38 : decode cX4_cools 38 = .ok (.iload_n 2, 1) := by decide +kernel
theorem dX4_cools_39 : decode cX4_cools 39 = .ok (.iload_n 1, 1) := by decide +kernel
theorem dX4_cools_40 : decode cX4_cools 40 = .ok (.invokevirtual 68, 3) := by decide +kernel
theorem dX4_cools_43 : decode cX4_cools 43 = .ok (.iconst 0, 1) := by decide +kernel
theorem dX4_cools_44 : decode cX4_cools 44 = .ok (.bipush 99, 2) := by decide +kernel
theorem dX4_cools_46 : decode cX4_cools 46 = .ok (.invokestatic 61, 3) := by decide +kernel
theorem dX4_cools_49 : decode cX4_cools 49 = .ok (.ireturn, 1) := by decide +kernel
theorem dX4_far_0 : decode cX4_far 0 = .ok (.aload_n 0, 1) := by decide +kernel
theorem dX4_far_1 : decode cX4_far 1 = .ok (.getfield 9, 3) := by decide +kernel
theorem dX4_far_4 : decode cX4_far 4 = .ok (.iconst 1, 1) := by decide +kernel
theorem dX4_far_5 : decode cX4_far 5 = .ok (.iload_n 1, 1) := by decide +kernel
theorem dX4_far_6 : decode cX4_far 6 = .ok (.iastore, 1) := by decide +kernel
theorem dX4_far_7 : decode cX4_far 7 = .ok (.aload_n 0, 1) := by decide +kernel
theorem dX4_far_8 : decode cX4_far 8 = .ok (.getfield 9, 3) := by decide +kernel
theorem dX4_far_11 : decode cX4_far 11 = .ok (.iconst 0, 1) := by decide +kernel
theorem dX4_far_12 : decode cX4_far 12 = .ok (.iconst 0, 1) := by decide +kernel
theorem dX4_far_13 : decode cX4_far 13 = .ok (.iastore, 1) := by decide +kernel
theorem dX4_far_14 : decode cX4_far 14 = .ok (.aload_n 0, 1) := by decide +kernel
theorem dX4_far_15 : decode cX4_far 15 = .ok (.getfield 15, 3) := by decide +kernel
theorem dX4_far_18 : decode cX4_far 18 = .ok (.aload_n 0, 1) := by decide +kernel
theorem dX4_far_19 : decode cX4_far 19 = .ok (.getfield 29, 3) := by decide +kernel
theorem dX4_far_22 : decode cX4_far 22 = .ok (.iconst 2, 1) := by decide +kernel
theorem dX4_far_23 : decode cX4_far 23 = .ok (.aload_n 0, 1) := by decide +kernel
theorem dX4_far_24 : decode cX4_far 24 = .ok (.getfield 9, 3) := by decide +kernel
theorem dX4_far_27 : decode cX4_far 27 = .ok (.invokevirtual 55, 3) := by decide +kernel
theorem dX4_far_30 : decode cX4_far 30 = .ok (.iconst 0, 1) := by decide +kernel
theorem dX4_far_31 : decode cX4_far 31 = .ok (.bipush 40, 2) := by decide +kernel
theorem dX4_far_33 : decode cX4_far 33 = .ok (.invokestatic 61, 3) := by decide +kernel
theorem dX4_far_36 : decode cX4_far 36 = .ok (.istore_n 2, 1) := by decide +kernel
theorem dX4_far_37 : decode cX4_far 37 = .ok (.aload_n 0, 1) := by decide +kernel
theorem dX4_far_38 : decode cX4_far 38 = .ok (.iload_n 2, 1) := by decide +kernel
theorem dX4_far_39 : decode cX4_far 39 = .ok (.iload_n 1, 1) := by decide +kernel
theorem dX4_far_40 : decode cX4_far 40 = .ok (.invokevirtual 72, 3) := by decide +kernel
theorem dX4_far_43 : decode cX4_far 43 = .ok (.iconst 0, 1) := by decide +kernel
theorem dX4_far_44 : decode cX4_far 44 = .ok (.bipush 40, 2) := by decide +kernel
theorem dX4_far_46 : decode cX4_far 46 = .ok (.invokestatic 61, 3) := by decide +kernel
theorem dX4_far_49 : decode cX4_far 49 = .ok (.ireturn, 1) := by decide +kernel
theorem dX4_heated_0 : decode cX4_heated 0 = .ok (.iload_n 1, 1) := by decide +kernel
theorem dX4_heated_1 : decode cX4_heated 1 = .ok (.aload_n 0, 1) := by decide +kernel
theorem dX4_heated_2 : decode cX4_heated 2 = .ok (.iload_n 1, 1) := by decide +kernel
theorem dX4_heated_3 : decode cX4_heated 3 = .ok (.iload_n 2, 1) := by decide +kernel
theorem dX4_heated_4 : decode cX4_heated 4 = .ok (.invokevirtual 75, 3) := by decide +kernel
theorem dX4_heated_7 : decode cX4_heated 7 = .ok (.iadd, 1) := by decide +kernel
theorem dX4_heated_8 : decode cX4_heated 8 = .ok (.iconst 0, 1) := by decide +kernel
theorem dX4_heated_9 : decode cX4_heated 9 = .ok (.bipush 99, 2) := by decide +kernel
theorem dX4_heated_11 : decode cX4_heated 11 = .ok (.invokestatic 61, 3) := by decide +kernel
theorem dX4_heated_14 : decode cX4_heated 14 = .ok (.ireturn, 1) := by decide +kernel
theorem dX4_cooled_0 : decode cX4_cooled 0 = .ok (.iload_n 1, 1) := by decide +kernel
theorem dX4_cooled_1 : decode cX4_cooled 1 = .ok (.aload_n 0, 1) := by decide +kernel
theorem dX4_cooled_2 : decode cX4_cooled 2 = .ok (.iload_n 1, 1) := by decide +kernel
theorem dX4_cooled_3 : decode cX4_cooled 3 = .ok (.invokevirtual 78, 3) := by decide +kernel
theorem dX4_cooled_6 : decode cX4_cooled 6 = .ok (.isub, 1) := by decide +kernel
theorem dX4_cooled_7 : decode cX4_cooled 7 = .ok (.iconst 0, 1) := by decide +kernel
theorem dX4_cooled_8 : decode cX4_cooled 8 = .ok (.bipush 99, 2) := by decide +kernel
theorem dX4_cooled_10 : decode cX4_cooled 10 = .ok (.invokestatic 61, 3) := by decide +kernel
theorem dX4_cooled_13 : decode cX4_cooled 13 = .ok (.ireturn, 1) := by decide +kernel
theorem dX4_heatsOfKind_0 : decode cX4_heatsOfKind 0 = .ok (.aload_n 0, 1) := by decide +kernel
theorem dX4_heatsOfKind_1 : decode cX4_heatsOfKind 1 = .ok (.getfield 33, 3) := by decide +kernel
theorem dX4_heatsOfKind_4 : decode cX4_heatsOfKind 4 = .ok (.tableswitch 75 1 5 #[36, 43, 47, 58, 73], 36) := by decide +kernel
theorem dX4_heatsOfKind_40 : decode cX4_heatsOfKind 40 = .ok (.aload_n 0, 1) := by decide +kernel
theorem dX4_heatsOfKind_41 : decode cX4_heatsOfKind 41 = .ok (.iload_n 1, 1) := by decide +kernel
theorem dX4_heatsOfKind_42 : decode cX4_heatsOfKind 42 = .ok (.iload_n 3, 1) := by decide +kernel
theorem dX4_heatsOfKind_43 : decode cX4_heatsOfKind 43 = .ok (.invokevirtual 82, 3) := by decide +kernel
theorem dX4_heatsOfKind_46 : decode cX4_heatsOfKind 46 = .ok (.ireturn, 1) := by decide +kernel
theorem dX4_heatsOfKind_47 : decode cX4_heatsOfKind 47 = .ok (.iload_n 1, 1) := by decide +kernel
theorem dX4_heatsOfKind_48 : decode cX4_heatsOfKind 48 = .ok (.iconst 2, 1) := by decide +kernel
theorem dX4_heatsOfKind_49 : decode cX4_heatsOfKind 49 = .ok (.idiv, 1) := by decide +kernel
theorem dX4_heatsOfKind_50 : decode cX4_heatsOfKind 50 = .ok (.ireturn, 1) := by decide +kernel
theorem dX4_heatsOfKind_51 : decode cX4_heatsOfKind 51 = .ok (.iconst 0, 1) := by decide +kernel
theorem dX4_heatsOfKind_52 : decode cX4_heatsOfKind 52 = .ok (.aload_n 0, 1) := by decide +kernel
theorem dX4_heatsOfKind_53 : decode cX4_heatsOfKind 53 = .ok (.iload_n 1, 1) := by decide +kernel
theorem dX4_heatsOfKind_54 : decode cX4_heatsOfKind 54 = .ok (.iload_n 3, 1) := by decide +kernel
theorem dX4_heatsOfKind_55 : decode cX4_heatsOfKind 55 = .ok (.invokevirtual 82, 3) := by decide +kernel
theorem dX4_heatsOfKind_58 : decode cX4_heatsOfKind 58 = .ok (.invokestatic 85, 3) := by decide +kernel
theorem dX4_heatsOfKind_61 : decode cX4_heatsOfKind 61 = .ok (.ireturn, 1) := by decide +kernel
theorem dX4_heatsOfKind_62 : decode cX4_heatsOfKind 62 = .ok (.iload_n 2, 1) := by decide +kernel
theorem dX4_heatsOfKind_63 : decode cX4_heatsOfKind 63 = .ok (.bipush 20, 2) := by decide +kernel
theorem dX4_heatsOfKind_65 : decode cX4_heatsOfKind 65 = .ok (.if_icmp .ge 8, 3) := by decide +kernel
theorem dX4_heatsOfKind_68 : decode cX4_heatsOfKind 68 = .ok (.bipush (-10), 2) := by decide +kernel
theorem dX4_heatsOfKind_70 : decode cX4_heatsOfKind 70 = .ok (.goto 6, 3) := by decide +kernel
theorem dX4_heatsOfKind_73 : decode cX4_heatsOfKind 73 = .ok (.iload_n 1, 1) := by decide +kernel
theorem dX4_heatsOfKind_74 : decode cX4_heatsOfKind 74 = .ok (.iconst 2, 1) := by decide +kernel
theorem dX4_heatsOfKind_75 : decode cX4_heatsOfKind 75 = .ok (.idiv, 1) := by decide +kernel
theorem dX4_heatsOfKind_76 : decode cX4_heatsOfKind 76 = .ok (.ireturn, 1) := by decide +kernel
theorem dX4_heatsOfKind_77 : decode cX4_heatsOfKind 77 = .ok (.iconst 0, 1) := by decide +kernel
theorem dX4_heatsOfKind_78 : decode cX4_heatsOfKind 78 = .ok (.ireturn, 1) := by decide +kernel
theorem dX4_heatsOfKind_79 : decode cX4_heatsOfKind 79 = .ok (.iload_n 1, 1) := by decide +kernel
theorem dX4_heatsOfKind_80 : decode cX4_heatsOfKind 80 = .ok (.ireturn, 1) := by decide +kernel
theorem dX4_heatsOfWed_0 : decode cX4_heatsOfWed 0 = .ok (.iload_n 2, 1) := by decide +kernel
theorem dX4_heatsOfWed_1 : decode cX4_heatsOfWed 1 = .ok (.aload_n 0, 1) := by decide +kernel
theorem dX4_heatsOfWed_2 : decode cX4_heatsOfWed 2 = .ok (.getfield 9, 3) := by decide +kernel
theorem dX4_heatsOfWed_5 : decode cX4_heatsOfWed 5 = .ok (.iconst 2, 1) := by decide +kernel
theorem dX4_heatsOfWed_6 : decode cX4_heatsOfWed 6 = .ok (.iaload, 1) := by decide +kernel
theorem dX4_heatsOfWed_7 : decode cX4_heatsOfWed 7 = .ok (.bipush 6, 2) := by decide +kernel
theorem dX4_heatsOfWed_9 : decode cX4_heatsOfWed 9 = .ok (.irem, 1) := by decide +kernel
theorem dX4_heatsOfWed_10 : decode cX4_heatsOfWed 10 = .ok (.if_icmp .ne 9, 3) := by decide +kernel
theorem dX4_heatsOfWed_13 : decode cX4_heatsOfWed 13 = .ok (.iconst 2, 1) := by decide +kernel
theorem dX4_heatsOfWed_14 : decode cX4_heatsOfWed 14 = .ok (.iload_n 1, 1) := by decide +kernel
theorem dX4_heatsOfWed_15 : decode cX4_heatsOfWed 15 = .ok (.imul, 1) := by decide +kernel
theorem dX4_heatsOfWed_16 : decode cX4_heatsOfWed 16 = .ok (.goto 4, 3) := by decide +kernel
theorem dX4_heatsOfWed_19 : decode cX4_heatsOfWed 19 = .ok (.iload_n 1, 1) := by decide +kernel
theorem dX4_heatsOfWed_20 : decode cX4_heatsOfWed 20 = .ok (.ireturn, 1) := by decide +kernel
theorem dX4_coolsOfKind_0 : decode cX4_coolsOfKind 0 = .ok (.aload_n 0, 1) := by decide +kernel
theorem dX4_coolsOfKind_1 : decode cX4_coolsOfKind 1 = .ok (.getfield 33, 3) := by decide +kernel
theorem dX4_coolsOfKind_4 : decode cX4_coolsOfKind 4 = .ok (.tableswitch 60 1 4 #[32, 36, 40, 54], 32) := by decide +kernel
theorem dX4_coolsOfKind_36 : decode cX4_coolsOfKind 36 = .ok (.iload_n 1, 1) := by decide +kernel
theorem dX4_coolsOfKind_37 : decode cX4_coolsOfKind 37 = .ok (.iconst 1, 1) := by decide +kernel
theorem dX4_coolsOfKind_38 : decode cX4_coolsOfKind 38 = .ok (.isub, 1) := by decide +kernel
theorem dX4_coolsOfKind_39 : decode cX4_coolsOfKind 39 = .ok (.ireturn, 1) := by decide +kernel
theorem dX4_coolsOfKind_40 : decode cX4_coolsOfKind 40 = .ok (.iload_n 1, 1) := by decide +kernel
theorem dX4_coolsOfKind_41 : decode cX4_coolsOfKind 41 = .ok (.iconst 3, 1) := by decide +kernel
theorem dX4_coolsOfKind_42 : decode cX4_coolsOfKind 42 = .ok (.iadd, 1) := by decide +kernel
theorem dX4_coolsOfKind_43 : decode cX4_coolsOfKind 43 = .ok (.ireturn, 1) := by decide +kernel
theorem dX4_coolsOfKind_44 : decode cX4_coolsOfKind 44 = .ok (.iload_n 2, 1) := by decide +kernel
theorem dX4_coolsOfKind_45 : decode cX4_coolsOfKind 45 = .ok (.bipush 50, 2) := by decide +kernel
theorem dX4_coolsOfKind_47 : decode cX4_coolsOfKind 47 = .ok (.if_icmp .le 7, 3) := by decide +kernel
theorem dX4_coolsOfKind_50 : decode cX4_coolsOfKind 50 = .ok (.iconst 0, 1) := by decide +kernel
theorem dX4_coolsOfKind_51 : decode cX4_coolsOfKind 51 = .ok (.goto 6, 3) := by decide +kernel
theorem dX4_coolsOfKind_54 : decode cX4_coolsOfKind 54 = .ok (.iload_n 1, 1) := by decide +kernel
theorem dX4_coolsOfKind_55 : decode cX4_coolsOfKind 55 = .ok (.iconst 1, 1) := by decide +kernel
theorem dX4_coolsOfKind_56 : decode cX4_coolsOfKind 56 = .ok (.isub, 1) := by decide +kernel
theorem dX4_coolsOfKind_57 : decode cX4_coolsOfKind 57 = .ok (.ireturn, 1) := by decide +kernel
theorem dX4_coolsOfKind_58 : decode cX4_coolsOfKind 58 = .ok (.iconst 2, 1) := by decide +kernel
theorem dX4_coolsOfKind_59 : decode cX4_coolsOfKind 59 = .ok (.iload_n 1, 1) := by decide +kernel
theorem dX4_coolsOfKind_60 : decode cX4_coolsOfKind 60 = .ok (.iconst 3, 1) := by decide +kernel
theorem dX4_coolsOfKind_61 : decode cX4_coolsOfKind 61 = .ok (.iadd, 1) := by decide +kernel
theorem dX4_coolsOfKind_62 : decode cX4_coolsOfKind 62 = .ok (.imul, 1) := by decide +kernel
theorem dX4_coolsOfKind_63 : decode cX4_coolsOfKind 63 = .ok (.ireturn, 1) := by decide +kernel
theorem dX4_coolsOfKind_64 : decode cX4_coolsOfKind 64 = .ok (.iload_n 1, 1) := by decide +kernel
theorem dX4_coolsOfKind_65 : decode cX4_coolsOfKind 65 = .ok (.ireturn, 1) := by decide +kernel
theorem dX4_farOfKind_0 : decode cX4_farOfKind 0 = .ok (.aload_n 0, 1) := by decide +kernel
theorem dX4_farOfKind_1 : decode cX4_farOfKind 1 = .ok (.getfield 33, 3) := by decide +kernel
theorem dX4_farOfKind_4 : decode cX4_farOfKind 4 = .ok (.tableswitch 71 2 5 #[32, 41, 45, 62], 32) := by decide +kernel
theorem dX4_farOfKind_36 : decode cX4_farOfKind 36 = .ok (.iload_n 1, 1) := by decide +kernel
theorem dX4_farOfKind_37 : decode cX4_farOfKind 37 = .ok (.aload_n 0, 1) := by decide +kernel
theorem dX4_farOfKind_38 : decode cX4_farOfKind 38 = .ok (.getfield 9, 3) := by decide +kernel
theorem dX4_farOfKind_41 : decode cX4_farOfKind 41 = .ok (.iconst 2, 1) := by decide +kernel
theorem dX4_farOfKind_42 : decode cX4_farOfKind 42 = .ok (.iaload, 1) := by decide +kernel
theorem dX4_farOfKind_43 : decode cX4_farOfKind 43 = .ok (.isub, 1) := by decide +kernel
theorem dX4_farOfKind_44 : decode cX4_farOfKind 44 = .ok (.ireturn, 1) := by decide +kernel
theorem dX4_farOfKind_45 : decode cX4_farOfKind 45 = .ok (.iload_n 1, 1) := by decide +kernel
theorem dX4_farOfKind_46 : decode cX4_farOfKind 46 = .ok (.iconst 5, 1) := by decide +kernel
theorem dX4_farOfKind_47 : decode cX4_farOfKind 47 = .ok (.iadd, 1) := by decide +kernel
theorem dX4_farOfKind_48 : decode cX4_farOfKind 48 = .ok (.ireturn, 1) := by decide +kernel
theorem dX4_farOfKind_49 : decode cX4_farOfKind 49 = .ok (.iload_n 2, 1) := by decide +kernel
theorem dX4_farOfKind_50 : decode cX4_farOfKind 50 = .ok (.ifCond .ne 7, 3) := by decide +kernel
theorem dX4_farOfKind_53 : decode cX4_farOfKind 53 = .ok (.iconst 0, 1) := by decide +kernel
theorem dX4_farOfKind_54 : decode cX4_farOfKind 54 = .ok (.goto 11, 3) := by decide +kernel
theorem dX4_farOfKind_57 : decode cX4_farOfKind 57 = .ok (.iload_n 1, 1) := by decide +kernel
theorem dX4_farOfKind_58 : decode cX4_farOfKind 58 = .ok (.aload_n 0, 1) := by decide +kernel
theorem dX4_farOfKind_59 : decode cX4_farOfKind 59 = .ok (.getfield 9, 3) := by decide +kernel
theorem dX4_farOfKind_62 : decode cX4_farOfKind 62 = .ok (.iconst 2, 1) := by decide +kernel
theorem dX4_farOfKind_63 : decode cX4_farOfKind 63 = .ok (.iaload, 1) := by decide +kernel
theorem dX4_farOfKind_64 : decode cX4_farOfKind 64 = .ok (.isub, 1) := by decide +kernel
theorem dX4_farOfKind_65 : decode cX4_farOfKind 65 = .ok (.ireturn, 1) := by decide +kernel
theorem dX4_farOfKind_66 : decode cX4_farOfKind 66 = .ok (.iconst 4, 1) := by decide +kernel
theorem dX4_farOfKind_67 : decode cX4_farOfKind 67 = .ok (.aload_n 0, 1) := by decide +kernel
theorem dX4_farOfKind_68 : decode cX4_farOfKind 68 = .ok (.getfield 9, 3) := by decide +kernel
theorem dX4_farOfKind_71 : decode cX4_farOfKind 71 = .ok (.iconst 2, 1) := by decide +kernel
theorem dX4_farOfKind_72 : decode cX4_farOfKind 72 = .ok (.iaload, 1) := by decide +kernel
theorem dX4_farOfKind_73 : decode cX4_farOfKind 73 = .ok (.imul, 1) := by decide +kernel
theorem dX4_farOfKind_74 : decode cX4_farOfKind 74 = .ok (.ireturn, 1) := by decide +kernel
theorem dX4_farOfKind_75 : decode cX4_farOfKind 75 = .ok (.iload_n 1, 1) := by decide +kernel
theorem dX4_farOfKind_76 : decode cX4_farOfKind 76 = .ok (.ireturn, 1) := by decide +kernel
theorem dX5_init_0 : decode cX5_init 0 = .ok (.aload_n 0, 1) := by decide +kernel
theorem dX5_init_1 : decode cX5_init 1 = .ok (.invokespecial 3, 3) := by decide +kernel
theorem dX5_init_4 : decode cX5_init 4 = .ok (.aload_n 0, 1) := by decide +kernel
theorem dX5_init_5 : decode cX5_init 5 = .ok (.sipush 960, 3) := by decide +kernel
theorem dX5_init_8 : decode cX5_init 8 = .ok (.newarray .int, 2) := by decide +kernel
theorem dX5_init_10 : decode cX5_init 10 = .ok (.putfield 9, 3) := by decide +kernel
theorem dX5_init_13 : decode cX5_init 13 = .ok (.aload_n 0, 1) := by decide +kernel
theorem dX5_init_14 : decode cX5_init 14 = .ok (.bipush 18, 2) := by decide +kernel
theorem dX5_init_16 : decode cX5_init 16 = .ok (.newarray .int, 2) := by decide +kernel
theorem dX5_init_18 : decode cX5_init 18 = .ok (.putfield 15, 3) := by decide +kernel
theorem dX5_init_21 : decode cX5_init 21 = .ok (.aload_n 0, 1) := by decide +kernel
theorem dX5_init_22 : decode cX5_init 22 = .ok (.sipush 160, 3) := by decide +kernel
theorem dX5_init_25 : decode cX5_init 25 = .ok (.newarray .int, 2) := by decide +kernel
theorem dX5_init_27 : decode cX5_init 27 = .ok (.putfield 18, 3) := by decide +kernel
theorem dX5_init_30 : decode cX5_init 30 = .ok (.return_, 1) := by decide +kernel
theorem dX5_begin_0 : decode cX5_begin 0 = .ok (.aload_n 0, 1) := by decide +kernel
theorem dX5_begin_1 : decode cX5_begin 1 = .ok (.iconst 0, 1) := by decide +kernel
theorem dX5_begin_2 : decode cX5_begin 2 = .ok (.putfield 21, 3) := by decide +kernel
theorem dX5_begin_5 : decode cX5_begin 5 = .ok (.return_, 1) := by decide +kernel
theorem dX5_add_0 : decode cX5_add 0 = .ok (.aload_n 0, 1) := by decide +kernel
theorem dX5_add_1 : decode cX5_add 1 = .ok (.getfield 25, 3) := by decide +kernel
theorem dX5_add_4 : decode cX5_add 4 = .ok (.bipush 6, 2) := by decide +kernel
theorem dX5_add_6 : decode cX5_add 6 = .ok (.invokestatic 28, 3) := by decide +kernel
theorem dX5_add_9 : decode cX5_add 9 = .ok (.ifCond .eq 45, 3) := by decide +kernel
theorem dX5_add_12 : decode cX5_add 12 = .ok (.aload_n 0, 1) := by decide +kernel
theorem dX5_add_13 : decode cX5_add 13 = .ok (.getfield 21, 3) := by decide +kernel
theorem dX5_add_16 : decode cX5_add 16 = .ok (.sipush 160, 3) := by decide +kernel
theorem dX5_add_19 : decode cX5_add 19 = .ok (.invokestatic 28, 3) := by decide +kernel
theorem dX5_add_22 : decode cX5_add 22 = .ok (.ifCond .eq 32, 3) := by decide +kernel
theorem dX5_add_25 : decode cX5_add 25 = .ok (.aload_n 0, 1) := by decide +kernel
theorem dX5_add_26 : decode cX5_add 26 = .ok (.getfield 9, 3) := by decide +kernel
theorem dX5_add_29 : decode cX5_add 29 = .ok (.aload_n 0, 1) := by decide +kernel
theorem dX5_add_30 : decode cX5_add 30 = .ok (.getfield 25, 3) := by decide +kernel
theorem dX5_add_33 : decode cX5_add 33 = .ok (.sipush 160, 3) := by decide +kernel
theorem dX5_add_36 : decode cX5_add 36 = .ok (.imul, 1) := by decide +kernel
theorem dX5_add_37 : decode cX5_add 37 = .ok (.aload_n 0, 1) := by decide +kernel
theorem dX5_add_38 : decode cX5_add 38 = .ok (.getfield 21, 3) := by decide +kernel
theorem dX5_add_41 : decode cX5_add 41 = .ok (.iadd, 1) := by decide +kernel
theorem dX5_add_42 : decode cX5_add 42 = .ok (.iload_n 1, 1) := by decide +kernel
theorem dX5_add_43 : decode cX5_add 43 = .ok (.iastore, 1) := by decide +kernel
theorem dX5_add_44 : decode cX5_add 44 = .ok (.aload_n 0, 1) := by decide +kernel
theorem dX5_add_45 : decode cX5_add 45 = .ok (.dup, 1) := by decide +kernel
theorem dX5_add_46 : decode cX5_add 46 = .ok (.getfield 21, 3) := by decide +kernel
theorem dX5_add_49 : decode cX5_add 49 = .ok (.iconst 1, 1) := by decide +kernel
theorem dX5_add_50 : decode cX5_add 50 = .ok (.iadd, 1) := by decide +kernel
theorem dX5_add_51 : decode cX5_add 51 = .ok (.putfield 21, 3) := by decide +kernel
theorem dX5_add_54 : decode cX5_add 54 = .ok (.return_, 1) := by decide +kernel
theorem dX5_endPart_0 : decode cX5_endPart 0 = .ok (.aload_n 0, 1) := by decide +kernel
theorem dX5_endPart_1 : decode cX5_endPart 1 = .ok (.getfield 25, 3) := by decide +kernel
theorem dX5_endPart_4 : decode cX5_endPart 4 = .ok (.bipush 6, 2) := by decide +kernel
theorem dX5_endPart_6 : decode cX5_endPart 6 = .ok (.invokestatic 28, 3) := by decide +kernel
theorem dX5_endPart_9 : decode cX5_endPart 9 = .ok (.ifCond .eq 28, 3) := by decide +kernel
theorem dX5_endPart_12 : decode cX5_endPart 12 = .ok (.iload_n 1, 1) := by decide +kernel
theorem dX5_endPart_13 : decode cX5_endPart 13 = .ok (.iconst 3, 1) := by decide +kernel
theorem dX5_endPart_14 : decode cX5_endPart 14 = .ok (.invokestatic 28, 3) := by decide +kernel
theorem dX5_endPart_17 : decode cX5_endPart 17 = .ok (.ifCond .eq 20, 3) := by decide +kernel
theorem dX5_endPart_20 : decode cX5_endPart 20 = .ok (.aload_n 0, 1) := by decide +kernel
theorem dX5_endPart_21 : decode cX5_endPart 21 = .ok (.getfield 15, 3) := by decide +kernel
theorem dX5_endPart_24 : decode cX5_endPart 24 = .ok (.aload_n 0, 1) := by decide +kernel
theorem dX5_endPart_25 : decode cX5_endPart 25 = .ok (.getfield 25, 3) := by decide +kernel
theorem dX5_endPart_28 : decode cX5_endPart 28 = .ok (.iconst 3, 1) := by decide +kernel
theorem dX5_endPart_29 : decode cX5_endPart 29 = .ok (.imul, 1) := by decide +kernel
theorem dX5_endPart_30 : decode cX5_endPart 30 = .ok (.iload_n 1, 1) := by decide +kernel
theorem dX5_endPart_31 : decode cX5_endPart 31 = .ok (.iadd, 1) := by decide +kernel
theorem dX5_endPart_32 : decode cX5_endPart 32 = .ok (.aload_n 0, 1) := by decide +kernel
theorem dX5_endPart_33 : decode cX5_endPart 33 = .ok (.getfield 21, 3) := by decide +kernel
theorem dX5_endPart_36 : decode cX5_endPart 36 = .ok (.iastore, 1) := by decide +kernel
theorem dX5_endPart_37 : decode cX5_endPart 37 = .ok (.return_, 1) := by decide +kernel
theorem dX5_keep_0 : decode cX5_keep 0 = .ok (.aload_n 0, 1) := by decide +kernel
theorem dX5_keep_1 : decode cX5_keep 1 = .ok (.bipush 6, 2) := by decide +kernel
theorem dX5_keep_3 : decode cX5_keep 3 = .ok (.aload_n 0, 1) := by decide +kernel
theorem dX5_keep_4 : decode cX5_keep 4 = .ok (.getfield 25, 3) := by decide +kernel
theorem dX5_keep_7 : decode cX5_keep 7 = .ok (.iconst 1, 1) := by decide +kernel
theorem dX5_keep_8 : decode cX5_keep 8 = .ok (.iadd, 1) := by decide +kernel
theorem dX5_keep_9 : decode cX5_keep 9 = .ok (.invokestatic 32, 3) := by decide +kernel
theorem dX5_keep_12 : decode cX5_keep 12 = .ok (.putfield 25, 3) := by decide +kernel
theorem dX5_keep_15 : decode cX5_keep 15 = .ok (.aload_n 0, 1) := by decide +kernel
theorem dX5_keep_16 : decode cX5_keep 16 = .ok (.getfield 25, 3) := by decide +kernel
theorem dX5_keep_19 : decode cX5_keep 19 = .ok (.iconst 1, 1) := by decide +kernel
theorem dX5_keep_20 : decode cX5_keep 20 = .ok (.isub, 1) := by decide +kernel
theorem dX5_keep_21 : decode cX5_keep 21 = .ok (.ireturn, 1) := by decide +kernel
theorem dX5_worth_0 : decode cX5_worth 0 = .ok (.iload_n 1, 1) := by decide +kernel
theorem dX5_worth_1 : decode cX5_worth 1 = .ok (.bipush 6, 2) := by decide +kernel
theorem dX5_worth_3 : decode cX5_worth 3 = .ok (.invokestatic 28, 3) := by decide +kernel
theorem dX5_worth_6 : decode cX5_worth 6 = .ok (.ifCond .eq 18, 3) := by decide +kernel
theorem dX5_worth_9 : decode cX5_worth 9 = .ok (.iload_n 2, 1) := by decide +kernel
theorem dX5_worth_10 : decode cX5_worth 10 = .ok (.iconst 3, 1) := by decide +kernel
theorem dX5_worth_11 : decode cX5_worth 11 = .ok (.invokestatic 28, 3) := by decide +kernel
theorem dX5_worth_14 : decode cX5_worth 14 = .ok (.ifCond .eq 10, 3) := by decide +kernel
theorem dX5_worth_17 : decode cX5_worth 17 = .ok (.aload_n 3, 1) := by decide +kernel
theorem dX5_worth_18 : decode cX5_worth 18 = .ok (.arraylength, 1) := by decide +kernel
theorem dX5_worth_19 : decode cX5_worth 19 = .ok (.bipush 6, 2) := by decide +kernel
theorem dX5_worth_21 : decode cX5_worth 21 = .ok (.if_icmp .ge 5, 3) := by decide +kernel
theorem dX5_worth_24 : decode cX5_worth 24 = .ok (.iconst 0, 1) := by decide +kernel
theorem dX5_worth_25 : decode cX5_worth 25 = .ok (.ireturn, 1) := by decide +kernel
theorem dX5_worth_26 : decode cX5_worth 26 = .ok (.aload_n 0, 1) := by decide +kernel
theorem dX5_worth_27 : decode cX5_worth 27 = .ok (.getfield 15, 3) := by decide +kernel
theorem dX5_worth_30 : decode cX5_worth 30 = .ok (.iload_n 1, 1) := by decide +kernel
theorem dX5_worth_31 : decode cX5_worth 31 = .ok (.iconst 3, 1) := by decide +kernel
theorem dX5_worth_32 : decode cX5_worth 32 = .ok (.imul, 1) := by decide +kernel
theorem dX5_worth_33 : decode cX5_worth 33 = .ok (.iload_n 2, 1) := by decide +kernel
theorem dX5_worth_34 : decode cX5_worth 34 = .ok (.iadd, 1) := by decide +kernel
theorem dX5_worth_35 : decode cX5_worth 35 = .ok (.iaload, 1) := by decide +kernel
theorem dX5_worth_36 : decode cX5_worth 36 = .ok (.istore 4, 2) := by decide +kernel
theorem dX5_worth_38 : decode cX5_worth 38 = .ok (.iconst 0, 1) := by decide +kernel
theorem dX5_worth_39 : decode cX5_worth 39 = .ok (.istore 5, 2) := by decide +kernel
theorem dX5_worth_41 : decode cX5_worth 41 = .ok (.iload_n 2, 1) := by decide +kernel
theorem dX5_worth_42 : decode cX5_worth 42 = .ok (.ifCond .ne 7, 3) := by decide +kernel
theorem dX5_worth_45 : decode cX5_worth 45 = .ok (.iconst 0, 1) := by decide +kernel
theorem dX5_worth_46 : decode cX5_worth 46 = .ok (.goto 15, 3) := by decide +kernel
theorem dX5_worth_49 : decode cX5_worth 49 = .ok (.aload_n 0, 1) := by decide +kernel
theorem dX5_worth_50 : decode cX5_worth 50 = .ok (.getfield 15, 3) := by decide +kernel
theorem dX5_worth_53 : decode cX5_worth 53 = .ok (.iload_n 1, 1) := by decide +kernel
theorem dX5_worth_54 : decode cX5_worth 54 = .ok (.iconst 3, 1) := by decide +kernel
theorem dX5_worth_55 : decode cX5_worth 55 = .ok (.imul, 1) := by decide +kernel
theorem dX5_worth_56 : decode cX5_worth 56 = .ok (.iload_n 2, 1) := by decide +kernel
theorem dX5_worth_57 : decode cX5_worth 57 = .ok (.iadd, 1) := by decide +kernel
theorem dX5_worth_58 : decode cX5_worth 58 = .ok (.iconst 1, 1) := by decide +kernel
theorem dX5_worth_59 : decode cX5_worth 59 = .ok (.isub, 1) := by decide +kernel
theorem dX5_worth_60 : decode cX5_worth 60 = .ok (.iaload, 1) := by decide +kernel
theorem dX5_worth_61 : decode cX5_worth 61 = .ok (.istore 6, 2) := by decide +kernel
theorem dX5_worth_63 : decode cX5_worth 63 = .ok (.iload 6, 2) := by decide +kernel
theorem dX5_worth_65 : decode cX5_worth 65 = .ok (.iload 4, 2) := by decide +kernel
theorem dX5_worth_67 : decode cX5_worth 67 = .ok (.if_icmp .ge 182, 3) := by decide +kernel
theorem dX5_worth_70 : decode cX5_worth 70 = .ok (.iload 6, 2) := by decide +kernel
theorem dX5_worth_72 : decode cX5_worth 72 = .ok (.sipush 160, 3) := by decide +kernel
theorem dX5_worth_75 : decode cX5_worth 75 = .ok (.invokestatic 28, 3) := by decide +kernel
theorem dX5_worth_78 : decode cX5_worth 78 = .ok (.ifCond .eq 171, 3) := by decide +kernel
theorem dX5_worth_81 : decode cX5_worth 81 = .ok (.aload_n 0, 1) := by decide +kernel
theorem dX5_worth_82 : decode cX5_worth 82 = .ok (.getfield 9, 3) := by decide +kernel
theorem dX5_worth_85 : decode cX5_worth 85 = .ok (.iload_n 1, 1) := by decide +kernel
theorem dX5_worth_86 : decode cX5_worth 86 = .ok (.sipush 160, 3) := by decide +kernel
theorem dX5_worth_89 : decode cX5_worth 89 = .ok (.imul, 1) := by decide +kernel
theorem dX5_worth_90 : decode cX5_worth 90 = .ok (.iload 6, 2) := by decide +kernel
theorem dX5_worth_92 : decode cX5_worth 92 = .ok (.iadd, 1) := by decide +kernel
theorem dX5_worth_93 : decode cX5_worth 93 = .ok (.iaload, 1) := by decide +kernel
theorem dX5_worth_94 : decode cX5_worth 94 = .ok (.istore 7, 2) := by decide +kernel
theorem dX5_worth_96 : decode cX5_worth 96 = .ok (.iload 7, 2) := by decide +kernel
theorem dX5_worth_98 : decode cX5_worth 98 = .ok (.bipush (-6), 2) := by decide +kernel
theorem dX5_worth_100 : decode cX5_worth 100 = .ok (.if_icmp .lt 40, 3) := by decide +kernel
theorem dX5_worth_103 : decode cX5_worth 103 = .ok (.iload 5, 2) := by decide +kernel
theorem dX5_worth_105 : decode cX5_worth 105 = .ok (.sipush 160, 3) := by decide +kernel
theorem dX5_worth_108 : decode cX5_worth 108 = .ok (.if_icmp .ge 32, 3) := by decide +kernel
theorem dX5_worth_111 : decode cX5_worth 111 = .ok (.aload_n 0, 1) := by decide +kernel
theorem dX5_worth_112 : decode cX5_worth 112 = .ok (.getfield 18, 3) := by decide +kernel
theorem dX5_worth_115 : decode cX5_worth 115 = .ok (.iload 5, 2) := by decide +kernel
theorem dX5_worth_117 : decode cX5_worth 117 = .ok (.iload 7, 2) := by decide +kernel
theorem dX5_worth_119 : decode cX5_worth 119 = .ok (.ifCond .lt 8, 3) := by decide +kernel
theorem dX5_worth_122 : decode cX5_worth 122 = .ok (.iload 7, 2) := by decide +kernel
theorem dX5_worth_124 : decode cX5_worth 124 = .ok (.goto 9, 3) := by decide +kernel
theorem dX5_worth_127 : decode cX5_worth 127 = .ok (.aload_n 3, 1) := by decide +kernel
theorem dX5_worth_128 : decode cX5_worth 128 = .ok (.iconst (-1), 1) := by decide +kernel
theorem dX5_worth_129 : decode cX5_worth 129 = .ok (.iload 7, 2) := by decide +kernel
theorem dX5_worth_131 : decode cX5_worth 131 = .ok (.isub, 1) := by decide +kernel
theorem dX5_worth_132 : decode cX5_worth 132 = .ok (.iaload, 1) := by decide +kernel
theorem dX5_worth_133 : decode cX5_worth 133 = .ok (.iastore, 1) := by decide +kernel
theorem dX5_worth_134 : decode cX5_worth 134 = .ok (.iinc 5 1, 3) := by decide +kernel
theorem dX5_worth_137 : decode cX5_worth 137 = .ok (.goto 106, 3) := by decide +kernel
theorem dX5_worth_140 : decode cX5_worth 140 = .ok (.iload 7, 2) := by decide +kernel
theorem dX5_worth_142 : decode cX5_worth 142 = .ok (.bipush (-8), 2) := by decide +kernel
theorem dX5_worth_144 : decode cX5_worth 144 = .ok (.if_icmp .lt 58, 3) := by decide +kernel
theorem dX5_worth_147 : decode cX5_worth 147 = .ok (.iload 5, 2) := by decide +kernel
theorem dX5_worth_149 : decode cX5_worth 149 = .ok (.iconst 1, 1) := by decide +kernel
theorem dX5_worth_150 : decode cX5_worth 150 = .ok (.if_icmp .lt 52, 3) := by decide +kernel
theorem dX5_worth_153 : decode cX5_worth 153 = .ok (.aload_n 0, 1) := by decide +kernel
theorem dX5_worth_154 : decode cX5_worth 154 = .ok (.getfield 18, 3) := by decide +kernel
theorem dX5_worth_157 : decode cX5_worth 157 = .ok (.iload 5, 2) := by decide +kernel
theorem dX5_worth_159 : decode cX5_worth 159 = .ok (.iconst 1, 1) := by decide +kernel
theorem dX5_worth_160 : decode cX5_worth 160 = .ok (.isub, 1) := by decide +kernel
theorem dX5_worth_161 : decode cX5_worth 161 = .ok (.iload 7, 2) := by decide +kernel
theorem dX5_worth_163 : decode cX5_worth 163 = .ok (.bipush (-7), 2) := by decide +kernel
theorem dX5_worth_165 : decode cX5_worth 165 = .ok (.if_icmp .ne 23, 3) := by decide +kernel
theorem dX5_worth_168 : decode cX5_worth 168 = .ok (.aload_n 0, 1) := by decide +kernel
theorem dX5_worth_169 : decode cX5_worth 169 = .ok (.getfield 18, 3) := by decide +kernel
theorem dX5_worth_172 : decode cX5_worth 172 = .ok (.iload 5, 2) := by decide +kernel
theorem dX5_worth_174 : decode cX5_worth 174 = .ok (.iconst 1, 1) := by decide +kernel
theorem dX5_worth_175 : decode cX5_worth 175 = .ok (.isub, 1) := by decide +kernel
theorem dX5_worth_176 : decode cX5_worth 176 = .ok (.iaload, 1) := by decide +kernel
theorem dX5_worth_177 : decode cX5_worth 177 = .ok (.ifCond .ne 7, 3) := by decide +kernel
theorem dX5_worth_180 : decode cX5_worth 180 = .ok (.iconst 1, 1) := by decide +kernel
theorem dX5_worth_181 : decode cX5_worth 181 = .ok (.goto 17, 3) := by decide +kernel
theorem dX5_worth_184 : decode cX5_worth 184 = .ok (.iconst 0, 1) := by decide +kernel
theorem dX5_worth_185 : decode cX5_worth 185 = .ok (.goto 13, 3) := by decide +kernel
theorem dX5_worth_188 : decode cX5_worth 188 = .ok (.aload_n 0, 1) := by decide +kernel
theorem dX5_worth_189 : decode cX5_worth 189 = .ok (.getfield 18, 3) := by decide +kernel
theorem dX5_worth_192 : decode cX5_worth 192 = .ok (.iload 5, 2) := by decide +kernel
theorem dX5_worth_194 : decode cX5_worth 194 = .ok (.iconst 1, 1) := by decide +kernel
theorem dX5_worth_195 : decode cX5_worth 195 = .ok (.isub, 1) := by decide +kernel
theorem dX5_worth_196 : decode cX5_worth 196 = .ok (.iaload, 1) := by decide +kernel
theorem dX5_worth_197 : decode cX5_worth 197 = .ok (.ineg, 1) := by decide +kernel
theorem dX5_worth_198 : decode cX5_worth 198 = .ok (.iastore, 1) := by decide +kernel
theorem dX5_worth_199 : decode cX5_worth 199 = .ok (.goto 44, 3) := by decide +kernel
theorem dX5_worth_202 : decode cX5_worth 202 = .ok (.iload 5, 2) := by decide +kernel
theorem dX5_worth_204 : decode cX5_worth 204 = .ok (.iconst 2, 1) := by decide +kernel
theorem dX5_worth_205 : decode cX5_worth 205 = .ok (.if_icmp .lt 38, 3) := by decide +kernel
theorem dX5_worth_208 : decode cX5_worth 208 = .ok (.aload_n 0, 1) := by decide +kernel
theorem dX5_worth_209 : decode cX5_worth 209 = .ok (.getfield 18, 3) := by decide +kernel
theorem dX5_worth_212 : decode cX5_worth 212 = .ok (.iload 5, 2) := by decide +kernel
theorem dX5_worth_214 : decode cX5_worth 214 = .ok (.iconst 2, 1) := by decide +kernel
theorem dX5_worth_215 : decode cX5_worth 215 = .ok (.isub, 1) := by decide +kernel
theorem dX5_worth_216 : decode cX5_worth 216 = .ok (.iload 7, 2) := by decide +kernel
theorem dX5_worth_218 : decode cX5_worth 218 = .ok (.aload_n 0, 1) := by decide +kernel
theorem dX5_worth_219 : decode cX5_worth 219 = .ok (.getfield 18, 3) := by decide +kernel
theorem dX5_worth_222 : decode cX5_worth 222 = .ok (.iload 5, 2) := by decide +kernel
theorem dX5_worth_224 : decode cX5_worth 224 = .ok (.iconst 2, 1) := by decide +kernel
theorem dX5_worth_225 : decode cX5_worth 225 = .ok (.isub, 1) := by decide +kernel
theorem dX5_worth_226 : decode cX5_worth 226 = .ok (.iaload, 1) := by decide +kernel
theorem dX5_worth_227 : decode cX5_worth 227 = .ok (.aload_n 0, 1) := by decide +kernel
theorem dX5_worth_228 : decode cX5_worth 228 = .ok (.getfield 18, 3) := by decide +kernel
theorem dX5_worth_231 : decode cX5_worth 231 = .ok (.iload 5, 2) := by decide +kernel
theorem dX5_worth_233 : decode cX5_worth 233 = .ok (.iconst 1, 1) := by decide +kernel
theorem dX5_worth_234 : decode cX5_worth 234 = .ok (.isub, 1) := by decide +kernel
theorem dX5_worth_235 : decode cX5_worth 235 = .ok (.iaload, 1) := by decide +kernel
theorem dX5_worth_236 : decode cX5_worth 236 = .ok (.invokestatic 38, 3) := by decide +kernel
theorem dX5_worth_239 : decode cX5_worth 239 = .ok (.iastore, 1) := by decide +kernel
theorem dX5_worth_240 : decode cX5_worth 240 = .ok (.iinc 5 (-1), 3) := by decide +kernel
theorem dX5_worth_243 : decode cX5_worth 243 = .ok (.iinc 6 1, 3) := by decide +kernel
theorem dX5_worth_246 : decode cX5_worth 246 = .ok (.goto (-183), 3) := by decide +kernel
theorem dX5_worth_249 : decode cX5_worth 249 = .ok (.aload_n 0, 1) := by decide +kernel
theorem dX5_worth_250 : decode cX5_worth 250 = .ok (.getfield 18, 3) := by decide +kernel
theorem dX5_worth_253 : decode cX5_worth 253 = .ok (.iconst 0, 1) := by decide +kernel
theorem dX5_worth_254 : decode cX5_worth 254 = .ok (.iaload, 1) := by decide +kernel
theorem dX5_worth_255 : decode cX5_worth 255 = .ok (.ireturn, 1) := by decide +kernel
theorem dX5_joined_0 : decode cX5_joined 0 = .ok (.iload_n 0, 1) := by decide +kernel
theorem dX5_joined_1 : decode cX5_joined 1 = .ok (.tableswitch 97 (-14) (-9) #[93, 89, 78, 67, 53, 39], 39) := by decide +kernel
theorem dX5_joined_40 : decode cX5_joined 40 = .ok (.iload_n 1, 1) := by decide +kernel
theorem dX5_joined_41 : decode cX5_joined 41 = .ok (.ifCond .ne 7, 3) := by decide +kernel
theorem dX5_joined_44 : decode cX5_joined 44 = .ok (.iload_n 2, 1) := by decide +kernel
theorem dX5_joined_45 : decode cX5_joined 45 = .ok (.ifCond .eq 7, 3) := by decide +kernel
theorem dX5_joined_48 : decode cX5_joined 48 = .ok (.iconst 1, 1) := by decide +kernel
theorem dX5_joined_49 : decode cX5_joined 49 = .ok (.goto 4, 3) := by decide +kernel
theorem dX5_joined_52 : decode cX5_joined 52 = .ok (.iconst 0, 1) := by decide +kernel
theorem dX5_joined_53 : decode cX5_joined 53 = .ok (.ireturn, 1) := by decide +kernel
theorem dX5_joined_54 : decode cX5_joined 54 = .ok (.iload_n 1, 1) := by decide +kernel
theorem dX5_joined_55 : decode cX5_joined 55 = .ok (.ifCond .eq 11, 3) := by decide +kernel
theorem dX5_joined_58 : decode cX5_joined 58 = .ok (.iload_n 2, 1) := by decide +kernel
theorem dX5_joined_59 : decode cX5_joined 59 = .ok (.ifCond .eq 7, 3) := by decide +kernel
theorem dX5_joined_62 : decode cX5_joined 62 = .ok (.iconst 1, 1) := by decide +kernel
theorem dX5_joined_63 : decode cX5_joined 63 = .ok (.goto 4, 3) := by decide +kernel
theorem dX5_joined_66 : decode cX5_joined 66 = .ok (.iconst 0, 1) := by decide +kernel
theorem dX5_joined_67 : decode cX5_joined 67 = .ok (.ireturn, 1) := by decide +kernel
theorem dX5_joined_68 : decode cX5_joined 68 = .ok (.iload_n 1, 1) := by decide +kernel
theorem dX5_joined_69 : decode cX5_joined 69 = .ok (.iload_n 2, 1) := by decide +kernel
theorem dX5_joined_70 : decode cX5_joined 70 = .ok (.if_icmp .ge 7, 3) := by decide +kernel
theorem dX5_joined_73 : decode cX5_joined 73 = .ok (.iconst 1, 1) := by decide +kernel
theorem dX5_joined_74 : decode cX5_joined 74 = .ok (.goto 4, 3) := by decide +kernel
theorem dX5_joined_77 : decode cX5_joined 77 = .ok (.iconst 0, 1) := by decide +kernel
theorem dX5_joined_78 : decode cX5_joined 78 = .ok (.ireturn, 1) := by decide +kernel
theorem dX5_joined_79 : decode cX5_joined 79 = .ok (.iload_n 1, 1) := by decide +kernel
theorem dX5_joined_80 : decode cX5_joined 80 = .ok (.iload_n 2, 1) := by decide +kernel
theorem dX5_joined_81 : decode cX5_joined 81 = .ok (.if_icmp .ne 7, 3) := by decide +kernel
theorem dX5_joined_84 : decode cX5_joined 84 = .ok (.iconst 1, 1) := by decide +kernel
theorem dX5_joined_85 : decode cX5_joined 85 = .ok (.goto 4, 3) := by decide +kernel
theorem dX5_joined_88 : decode cX5_joined 88 = .ok (.iconst 0, 1) := by decide +kernel
theorem dX5_joined_89 : decode cX5_joined 89 = .ok (.ireturn, 1) := by decide +kernel
theorem dX5_joined_90 : decode cX5_joined 90 = .ok (.iload_n 1, 1) := by decide +kernel
theorem dX5_joined_91 : decode cX5_joined 91 = .ok (.iload_n 2, 1) := by decide +kernel
theorem dX5_joined_92 : decode cX5_joined 92 = .ok (.iadd, 1) := by decide +kernel
theorem dX5_joined_93 : decode cX5_joined 93 = .ok (.ireturn, 1) := by decide +kernel
theorem dX5_joined_94 : decode cX5_joined 94 = .ok (.iload_n 1, 1) := by decide +kernel
theorem dX5_joined_95 : decode cX5_joined 95 = .ok (.iload_n 2, 1) := by decide +kernel
theorem dX5_joined_96 : decode cX5_joined 96 = .ok (.isub, 1) := by decide +kernel
theorem dX5_joined_97 : decode cX5_joined 97 = .ok (.ireturn, 1) := by decide +kernel
theorem dX5_joined_98 : decode cX5_joined 98 = .ok (.iload_n 1, 1) := by decide +kernel
theorem dX5_joined_99 : decode cX5_joined 99 = .ok (.iload_n 2, 1) := by decide +kernel
theorem dX5_joined_100 : decode cX5_joined 100 = .ok (.imul, 1) := by decide +kernel
theorem dX5_joined_101 : decode cX5_joined 101 = .ok (.ireturn, 1) := by decide +kernel
theorem dJ11_isValidCodePoint_9a6ad_0 : decode cJ11_isValidCodePoint_9a6ad 0 = .ok (.iload_n 0, 1) := by decide +kernel
theorem dJ11_isValidCodePoint_9a6ad_1 : decode cJ11_isValidCodePoint_9a6ad 1 = .ok (.bipush 16, 2) := by decide +kernel
theorem dJ11_isValidCodePoint_9a6ad_3 : decode cJ11_isValidCodePoint_9a6ad 3 = .ok (.iushr, 1) := by decide +kernel
theorem dJ11_isValidCodePoint_9a6ad_4 : decode cJ11_isValidCodePoint_9a6ad 4 = .ok (.istore_n 1, 1) := by decide +kernel
theorem dJ11_isValidCodePoint_9a6ad_5 : decode cJ11_isValidCodePoint_9a6ad 5 = .ok (.iload_n 1, 1) := by decide +kernel
theorem dJ11_isValidCodePoint_9a6ad_6 : decode cJ11_isValidCodePoint_9a6ad 6 = .ok (.bipush 17, 2) := by decide +kernel
theorem dJ11_isValidCodePoint_9a6ad_8 : decode cJ11_isValidCodePoint_9a6ad 8 = .ok (.if_icmp .ge 7, 3) := by decide +kernel
theorem dJ11_isValidCodePoint_9a6ad_11 : decode cJ11_isValidCodePoint_9a6ad 11 = .ok (.iconst 1, 1) := by decide +kernel
theorem dJ11_isValidCodePoint_9a6ad_12 : decode cJ11_isValidCodePoint_9a6ad 12 = .ok (.goto 4, 3) := by decide +kernel
theorem dJ11_isValidCodePoint_9a6ad_15 : decode cJ11_isValidCodePoint_9a6ad 15 = .ok (.iconst 0, 1) := by decide +kernel
theorem dJ11_isValidCodePoint_9a6ad_16 : decode cJ11_isValidCodePoint_9a6ad 16 = .ok (.ireturn, 1) := by decide +kernel
theorem dJ11_highSurrogate_5068e_0 : decode cJ11_highSurrogate_5068e 0 = .ok (.iload_n 0, 1) := by decide +kernel
theorem dJ11_highSurrogate_5068e_1 : decode cJ11_highSurrogate_5068e 1 = .ok (.bipush 10, 2) := by decide +kernel
theorem dJ11_highSurrogate_5068e_3 : decode cJ11_highSurrogate_5068e 3 = .ok (.iushr, 1) := by decide +kernel
theorem dJ11_highSurrogate_5068e_4 : decode cJ11_highSurrogate_5068e 4 = .ok (.ldc 110, 2) := by decide +kernel
theorem dJ11_highSurrogate_5068e_6 : decode cJ11_highSurrogate_5068e 6 = .ok (.iadd, 1) := by decide +kernel
theorem dJ11_highSurrogate_5068e_7 : decode cJ11_highSurrogate_5068e 7 = .ok (.i2c, 1) := by decide +kernel
theorem dJ11_highSurrogate_5068e_8 : decode cJ11_highSurrogate_5068e 8 = .ok (.ireturn, 1) := by decide +kernel
theorem dJ11_lowSurrogate_5068e_0 : decode cJ11_lowSurrogate_5068e 0 = .ok (.iload_n 0, 1) := by decide +kernel
theorem dJ11_lowSurrogate_5068e_1 : decode cJ11_lowSurrogate_5068e 1 = .ok (.sipush 1023, 3) := by decide +kernel
theorem dJ11_lowSurrogate_5068e_4 : decode cJ11_lowSurrogate_5068e 4 = .ok (.iand, 1) := by decide +kernel
theorem dJ11_lowSurrogate_5068e_5 : decode cJ11_lowSurrogate_5068e 5 = .ok (.ldc 76, 2) := by decide +kernel
theorem dJ11_lowSurrogate_5068e_7 : decode cJ11_lowSurrogate_5068e 7 = .ok (.iadd, 1) := by decide +kernel
theorem dJ11_lowSurrogate_5068e_8 : decode cJ11_lowSurrogate_5068e 8 = .ok (.i2c, 1) := by decide +kernel
theorem dJ11_lowSurrogate_5068e_9 : decode cJ11_lowSurrogate_5068e 9 = .ok (.ireturn, 1) := by decide +kernel
theorem dJ13_bitCount_95d88_0 : decode cJ13_bitCount_95d88 0 = .ok (.lload_n 0, 1) := by decide +kernel
theorem dJ13_bitCount_95d88_1 : decode cJ13_bitCount_95d88 1 = .ok (.lload_n 0, 1) := by decide +kernel
theorem dJ13_bitCount_95d88_2 : decode cJ13_bitCount_95d88 2 = .ok (.iconst 1, 1) := by decide +kernel
theorem dJ13_bitCount_95d88_3 : decode cJ13_bitCount_95d88 3 = .ok (.lushr, 1) := by decide +kernel
theorem dJ13_bitCount_95d88_4 : decode cJ13_bitCount_95d88 4 = .ok (.ldc2_w 314, 3) := by decide +kernel
theorem dJ13_bitCount_95d88_7 : decode cJ13_bitCount_95d88 7 = .ok (.land, 1) := by decide +kernel
theorem dJ13_bitCount_95d88_8 : decode cJ13_bitCount_95d88 8 = .ok (.lsub, 1) := by decide +kernel
theorem dJ13_bitCount_95d88_9 : decode cJ13_bitCount_95d88 9 = .ok (.lstore_n 0, 1) := by decide +kernel
theorem dJ13_bitCount_95d88_10 : decode cJ13_bitCount_95d88 10 = .ok (.lload_n 0, 1) := by decide +kernel
theorem dJ13_bitCount_95d88_11 : decode cJ13_bitCount_95d88 11 = .ok (.ldc2_w 316, 3) := by decide +kernel
theorem dJ13_bitCount_95d88_14 : decode cJ13_bitCount_95d88 14 = .ok (.land, 1) := by decide +kernel
theorem dJ13_bitCount_95d88_15 : decode cJ13_bitCount_95d88 15 = .ok (.lload_n 0, 1) := by decide +kernel
theorem dJ13_bitCount_95d88_16 : decode cJ13_bitCount_95d88 16 = .ok (.iconst 2, 1) := by decide +kernel
theorem dJ13_bitCount_95d88_17 : decode cJ13_bitCount_95d88 17 = .ok (.lushr, 1) := by decide +kernel
theorem dJ13_bitCount_95d88_18 : decode cJ13_bitCount_95d88 18 = .ok (.ldc2_w 316, 3) := by decide +kernel
theorem dJ13_bitCount_95d88_21 : decode cJ13_bitCount_95d88 21 = .ok (.land, 1) := by decide +kernel
theorem dJ13_bitCount_95d88_22 : decode cJ13_bitCount_95d88 22 = .ok (.ladd, 1) := by decide +kernel
theorem dJ13_bitCount_95d88_23 : decode cJ13_bitCount_95d88 23 = .ok (.lstore_n 0, 1) := by decide +kernel
theorem dJ13_bitCount_95d88_24 : decode cJ13_bitCount_95d88 24 = .ok (.lload_n 0, 1) := by decide +kernel
theorem dJ13_bitCount_95d88_25 : decode cJ13_bitCount_95d88 25 = .ok (.lload_n 0, 1) := by decide +kernel
theorem dJ13_bitCount_95d88_26 : decode cJ13_bitCount_95d88 26 = .ok (.iconst 4, 1) := by decide +kernel
theorem dJ13_bitCount_95d88_27 : decode cJ13_bitCount_95d88 27 = .ok (.lushr, 1) := by decide +kernel
theorem dJ13_bitCount_95d88_28 : decode cJ13_bitCount_95d88 28 = .ok (.ladd, 1) := by decide +kernel
theorem dJ13_bitCount_95d88_29 : decode cJ13_bitCount_95d88 29 = .ok (.ldc2_w 318, 3) := by decide +kernel
theorem dJ13_bitCount_95d88_32 : decode cJ13_bitCount_95d88 32 = .ok (.land, 1) := by decide +kernel
theorem dJ13_bitCount_95d88_33 : decode cJ13_bitCount_95d88 33 = .ok (.lstore_n 0, 1) := by decide +kernel
theorem dJ13_bitCount_95d88_34 : decode cJ13_bitCount_95d88 34 = .ok (.lload_n 0, 1) := by decide +kernel
theorem dJ13_bitCount_95d88_35 : decode cJ13_bitCount_95d88 35 = .ok (.lload_n 0, 1) := by decide +kernel
theorem dJ13_bitCount_95d88_36 : decode cJ13_bitCount_95d88 36 = .ok (.bipush 8, 2) := by decide +kernel
theorem dJ13_bitCount_95d88_38 : decode cJ13_bitCount_95d88 38 = .ok (.lushr, 1) := by decide +kernel
theorem dJ13_bitCount_95d88_39 : decode cJ13_bitCount_95d88 39 = .ok (.ladd, 1) := by decide +kernel
theorem dJ13_bitCount_95d88_40 : decode cJ13_bitCount_95d88 40 = .ok (.lstore_n 0, 1) := by decide +kernel
theorem dJ13_bitCount_95d88_41 : decode cJ13_bitCount_95d88 41 = .ok (.lload_n 0, 1) := by decide +kernel
theorem dJ13_bitCount_95d88_42 : decode cJ13_bitCount_95d88 42 = .ok (.lload_n 0, 1) := by decide +kernel
theorem dJ13_bitCount_95d88_43 : decode cJ13_bitCount_95d88 43 = .ok (.bipush 16, 2) := by decide +kernel
theorem dJ13_bitCount_95d88_45 : decode cJ13_bitCount_95d88 45 = .ok (.lushr, 1) := by decide +kernel
theorem dJ13_bitCount_95d88_46 : decode cJ13_bitCount_95d88 46 = .ok (.ladd, 1) := by decide +kernel
theorem dJ13_bitCount_95d88_47 : decode cJ13_bitCount_95d88 47 = .ok (.lstore_n 0, 1) := by decide +kernel
theorem dJ13_bitCount_95d88_48 : decode cJ13_bitCount_95d88 48 = .ok (.lload_n 0, 1) := by decide +kernel
theorem dJ13_bitCount_95d88_49 : decode cJ13_bitCount_95d88 49 = .ok (.lload_n 0, 1) := by decide +kernel
theorem dJ13_bitCount_95d88_50 : decode cJ13_bitCount_95d88 50 = .ok (.bipush 32, 2) := by decide +kernel
theorem dJ13_bitCount_95d88_52 : decode cJ13_bitCount_95d88 52 = .ok (.lushr, 1) := by decide +kernel
theorem dJ13_bitCount_95d88_53 : decode cJ13_bitCount_95d88 53 = .ok (.ladd, 1) := by decide +kernel
theorem dJ13_bitCount_95d88_54 : decode cJ13_bitCount_95d88 54 = .ok (.lstore_n 0, 1) := by decide +kernel
theorem dJ13_bitCount_95d88_55 : decode cJ13_bitCount_95d88 55 = .ok (.lload_n 0, 1) := by decide +kernel
theorem dJ13_bitCount_95d88_56 : decode cJ13_bitCount_95d88 56 = .ok (.l2i, 1) := by decide +kernel
theorem dJ13_bitCount_95d88_57 : decode cJ13_bitCount_95d88 57 = .ok (.bipush 127, 2) := by decide +kernel
theorem dJ13_bitCount_95d88_59 : decode cJ13_bitCount_95d88 59 = .ok (.iand, 1) := by decide +kernel
theorem dJ13_bitCount_95d88_60 : decode cJ13_bitCount_95d88 60 = .ok (.ireturn, 1) := by decide +kernel
theorem dJ9_max_7cf53_0 : decode cJ9_max_7cf53 0 = .ok (.iload_n 0, 1) := by decide +kernel
theorem dJ9_max_7cf53_1 : decode cJ9_max_7cf53 1 = .ok (.iload_n 1, 1) := by decide +kernel
theorem dJ9_max_7cf53_2 : decode cJ9_max_7cf53 2 = .ok (.if_icmp .lt 7, 3) := by decide +kernel
theorem dJ9_max_7cf53_5 : decode cJ9_max_7cf53 5 = .ok (.iload_n 0, 1) := by decide +kernel
theorem dJ9_max_7cf53_6 : decode cJ9_max_7cf53 6 = .ok (.goto 4, 3) := by decide +kernel
theorem dJ9_max_7cf53_9 : decode cJ9_max_7cf53 9 = .ok (.iload_n 1, 1) := by decide +kernel
theorem dJ9_max_7cf53_10 : decode cJ9_max_7cf53 10 = .ok (.ireturn, 1) := by decide +kernel
theorem dJ9_min_7cf53_0 : decode cJ9_min_7cf53 0 = .ok (.iload_n 0, 1) := by decide +kernel
theorem dJ9_min_7cf53_1 : decode cJ9_min_7cf53 1 = .ok (.iload_n 1, 1) := by decide +kernel
theorem dJ9_min_7cf53_2 : decode cJ9_min_7cf53 2 = .ok (.if_icmp .gt 7, 3) := by decide +kernel
theorem dJ9_min_7cf53_5 : decode cJ9_min_7cf53 5 = .ok (.iload_n 0, 1) := by decide +kernel
theorem dJ9_min_7cf53_6 : decode cJ9_min_7cf53 6 = .ok (.goto 4, 3) := by decide +kernel
theorem dJ9_min_7cf53_9 : decode cJ9_min_7cf53 9 = .ok (.iload_n 1, 1) := by decide +kernel
theorem dJ9_min_7cf53_10 : decode cJ9_min_7cf53 10 = .ok (.ireturn, 1) := by decide +kernel
theorem dJ0_length_8abf5_0 : decode cJ0_length_8abf5 0 = .ok (.aload_n 0, 1) := by decide +kernel
theorem dJ0_length_8abf5_1 : decode cJ0_length_8abf5 1 = .ok (.getfield 9, 3) := by decide +kernel
theorem dJ0_length_8abf5_4 : decode cJ0_length_8abf5 4 = .ok (.arraylength, 1) := by decide +kernel
theorem dJ0_length_8abf5_5 : decode cJ0_length_8abf5 5 = .ok (.aload_n 0, 1) := by decide +kernel
theorem dJ0_length_8abf5_6 : decode cJ0_length_8abf5 6 = .ok (.invokevirtual 335, 3) := by decide +kernel
theorem dJ0_length_8abf5_9 : decode cJ0_length_8abf5 9 = .ok (.ishr, 1) := by decide +kernel
theorem dJ0_length_8abf5_10 : decode cJ0_length_8abf5 10 = .ok (.ireturn, 1) := by decide +kernel
theorem dJ0_charAt_5068e_0 : decode cJ0_charAt_5068e 0 = .ok (.aload_n 0, 1) := by decide +kernel
theorem dJ0_charAt_5068e_1 : decode cJ0_charAt_5068e 1 = .ok (.invokevirtual 492, 3) := by decide +kernel
theorem dJ0_charAt_5068e_4 : decode cJ0_charAt_5068e 4 = .ok (.ifCond .eq 12, 3) := by decide +kernel
theorem dJ0_charAt_5068e_7 : decode cJ0_charAt_5068e 7 = .ok (.aload_n 0, 1) := by decide +kernel
theorem dJ0_charAt_5068e_8 : decode cJ0_charAt_5068e 8 = .ok (.getfield 9, 3) := by decide +kernel
theorem dJ0_charAt_5068e_11 : decode cJ0_charAt_5068e 11 = .ok (.iload_n 1, 1) := by decide +kernel
theorem dJ0_charAt_5068e_12 : decode cJ0_charAt_5068e 12 = .ok (.invokestatic 495, 3) := by decide +kernel
theorem dJ0_charAt_5068e_15 : decode cJ0_charAt_5068e 15 = .ok (.ireturn, 1) := by decide +kernel
theorem dJ0_charAt_5068e_16 : decode cJ0_charAt_5068e 16 = .ok (.aload_n 0, 1) := by decide +kernel
theorem dJ0_charAt_5068e_17 : decode cJ0_charAt_5068e 17 = .ok (.getfield 9, 3) := by decide +kernel
theorem dJ0_charAt_5068e_20 : decode cJ0_charAt_5068e 20 = .ok (.iload_n 1, 1) := by decide +kernel
theorem dJ0_charAt_5068e_21 : decode cJ0_charAt_5068e 21 = .ok (.invokestatic 498, 3) := by decide +kernel
theorem dJ0_charAt_5068e_24 : decode cJ0_charAt_5068e 24 = .ok (.ireturn, 1) := by decide +kernel
theorem dJ0_indexOf_0f7a4_0 : decode cJ0_indexOf_0f7a4 0 = .ok (.aload_n 0, 1) := by decide +kernel
theorem dJ0_indexOf_0f7a4_1 : decode cJ0_indexOf_0f7a4 1 = .ok (.iload_n 1, 1) := by decide +kernel
theorem dJ0_indexOf_0f7a4_2 : decode cJ0_indexOf_0f7a4 2 = .ok (.iconst 0, 1) := by decide +kernel
theorem dJ0_indexOf_0f7a4_3 : decode cJ0_indexOf_0f7a4 3 = .ok (.invokevirtual 633, 3) := by decide +kernel
theorem dJ0_indexOf_0f7a4_6 : decode cJ0_indexOf_0f7a4 6 = .ok (.ireturn, 1) := by decide +kernel
theorem dJ0_indexOf_7cf53_0 : decode cJ0_indexOf_7cf53 0 = .ok (.aload_n 0, 1) := by decide +kernel
theorem dJ0_indexOf_7cf53_1 : decode cJ0_indexOf_7cf53 1 = .ok (.invokevirtual 492, 3) := by decide +kernel
theorem dJ0_indexOf_7cf53_4 : decode cJ0_indexOf_7cf53 4 = .ok (.ifCond .eq 19, 3) := by decide +kernel
theorem dJ0_indexOf_7cf53_7 : decode cJ0_indexOf_7cf53 7 = .ok (.aload_n 0, 1) := by decide +kernel
theorem dJ0_indexOf_7cf53_8 : decode cJ0_indexOf_7cf53 8 = .ok (.getfield 9, 3) := by decide +kernel
theorem dJ0_indexOf_7cf53_11 : decode cJ0_indexOf_7cf53 11 = .ok (.iload_n 1, 1) := by decide +kernel
theorem dJ0_indexOf_7cf53_12 : decode cJ0_indexOf_7cf53 12 = .ok (.iload_n 2, 1) := by decide +kernel
theorem dJ0_indexOf_7cf53_13 : decode cJ0_indexOf_7cf53 13 = .ok (.aload_n 0, 1) := by decide +kernel
theorem dJ0_indexOf_7cf53_14 : decode cJ0_indexOf_7cf53 14 = .ok (.invokevirtual 505, 3) := by decide +kernel
theorem dJ0_indexOf_7cf53_17 : decode cJ0_indexOf_7cf53 17 = .ok (.invokestatic 637, 3) := by decide +kernel
theorem dJ0_indexOf_7cf53_20 : decode cJ0_indexOf_7cf53 20 = .ok (.goto 16, 3) := by decide +kernel
theorem dJ0_indexOf_7cf53_23 : decode cJ0_indexOf_7cf53 23 = .ok (.aload_n 0, 1) := by decide +kernel
theorem dJ0_indexOf_7cf53_24 : decode cJ0_indexOf_7cf53 24 = .ok (.getfield 9, 3) := by decide +kernel
theorem dJ0_indexOf_7cf53_27 : decode cJ0_indexOf_7cf53 27 = .ok (.iload_n 1, 1) := by decide +kernel
theorem dJ0_indexOf_7cf53_28 : decode cJ0_indexOf_7cf53 28 = .ok (.iload_n 2, 1) := by decide +kernel
theorem dJ0_indexOf_7cf53_29 : decode cJ0_indexOf_7cf53 29 = .ok (.aload_n 0, 1) := by decide +kernel
theorem dJ0_indexOf_7cf53_30 : decode cJ0_indexOf_7cf53 30 = .ok (.invokevirtual 505, 3) := by decide +kernel
theorem dJ0_indexOf_7cf53_33 : decode cJ0_indexOf_7cf53 33 = .ok (.invokestatic 640, 3) := by decide +kernel
theorem dJ0_indexOf_7cf53_36 : decode cJ0_indexOf_7cf53 36 = .ok (.ireturn, 1) := by decide +kernel
theorem dJ0_coder_7d493_0 : decode cJ0_coder_7d493 0 = .ok (.getstatic 38, 3) := by decide +kernel
theorem dJ0_coder_7d493_3 : decode cJ0_coder_7d493 3 = .ok (.ifCond .eq 10, 3) := by decide +kernel
theorem dJ0_coder_7d493_6 : decode cJ0_coder_7d493 6 = .ok (.aload_n 0, 1) := by decide +kernel
theorem dJ0_coder_7d493_7 : decode cJ0_coder_7d493 7 = .ok (.getfield 15, 3) := by decide +kernel
theorem dJ0_coder_7d493_10 : decode cJ0_coder_7d493 10 = .ok (.goto 4, 3) := by decide +kernel
theorem dJ0_coder_7d493_13 : decode cJ0_coder_7d493 13 = .ok (.iconst 1, 1) := by decide +kernel
theorem dJ0_coder_7d493_14 : decode cJ0_coder_7d493 14 = .ok (.ireturn, 1) := by decide +kernel
theorem dJ0_isLatin1_aae02_0 : decode cJ0_isLatin1_aae02 0 = .ok (.getstatic 38, 3) := by decide +kernel
theorem dJ0_isLatin1_aae02_3 : decode cJ0_isLatin1_aae02 3 = .ok (.ifCond .eq 14, 3) := by decide +kernel
theorem dJ0_isLatin1_aae02_6 : decode cJ0_isLatin1_aae02 6 = .ok (.aload_n 0, 1) := by decide +kernel
theorem dJ0_isLatin1_aae02_7 : decode cJ0_isLatin1_aae02 7 = .ok (.getfield 15, 3) := by decide +kernel
theorem dJ0_isLatin1_aae02_10 : decode cJ0_isLatin1_aae02 10 = .ok (.ifCond .ne 7, 3) := by decide +kernel
theorem dJ0_isLatin1_aae02_13 : decode cJ0_isLatin1_aae02 13 = .ok (.iconst 1, 1) := by decide +kernel
theorem dJ0_isLatin1_aae02_14 : decode cJ0_isLatin1_aae02 14 = .ok (.goto 4, 3) := by decide +kernel
theorem dJ0_isLatin1_aae02_17 : decode cJ0_isLatin1_aae02 17 = .ok (.iconst 0, 1) := by decide +kernel
theorem dJ0_isLatin1_aae02_18 : decode cJ0_isLatin1_aae02 18 = .ok (.ireturn, 1) := by decide +kernel
theorem dJ0_checkIndex_df160_0 : decode cJ0_checkIndex_df160 0 = .ok (.iload_n 0, 1) := by decide +kernel
theorem dJ0_checkIndex_df160_1 : decode cJ0_checkIndex_df160 1 = .ok (.iload_n 1, 1) := by decide +kernel
theorem dJ0_checkIndex_df160_2 : decode cJ0_checkIndex_df160 2 = .ok (.getstatic 1053, 3) := by decide +kernel
theorem dJ0_checkIndex_df160_5 : decode cJ0_checkIndex_df160 5 = .ok (.invokestatic 1059, 3) := by decide +kernel
theorem dJ0_checkIndex_df160_8 : decode cJ0_checkIndex_df160 8 = .ok (.pop, 1) := by decide +kernel
theorem dJ0_checkIndex_df160_9 : decode cJ0_checkIndex_df160 9 = .ok (.return_, 1) := by decide +kernel
theorem dJ0_checkBoundsBeginEnd_23922_0 : decode cJ0_checkBoundsBeginEnd_23922 0 = .ok (.iload_n 0, 1) := by decide +kernel
theorem dJ0_checkBoundsBeginEnd_23922_1 : decode cJ0_checkBoundsBeginEnd_23922 1 = .ok (.iload_n 1, 1) := by decide +kernel
theorem dJ0_checkBoundsBeginEnd_23922_2 : decode cJ0_checkBoundsBeginEnd_23922 2 = .ok (.iload_n 2, 1) := by decide +kernel
theorem dJ0_checkBoundsBeginEnd_23922_3 : decode cJ0_checkBoundsBeginEnd_23922 3 = .ok (.getstatic 1053, 3) := by decide +kernel
theorem dJ0_checkBoundsBeginEnd_23922_6 : decode cJ0_checkBoundsBeginEnd_23922 6 = .ok (.invokestatic 1062, 3) := by decide +kernel
theorem dJ0_checkBoundsBeginEnd_23922_9 : decode cJ0_checkBoundsBeginEnd_23922 9 = .ok (.pop, 1) := by decide +kernel
theorem dJ0_checkBoundsBeginEnd_23922_10 : decode cJ0_checkBoundsBeginEnd_23922 10 = .ok (.return_, 1) := by decide +kernel
theorem dJ1_charAt_3b067_0 : decode cJ1_charAt_3b067 0 = .ok (.iload_n 1, 1) := by decide +kernel
theorem dJ1_charAt_3b067_1 : decode cJ1_charAt_3b067 1 = .ok (.aload_n 0, 1) := by decide +kernel
theorem dJ1_charAt_3b067_2 : decode cJ1_charAt_3b067 2 = .ok (.arraylength, 1) := by decide +kernel
theorem dJ1_charAt_3b067_3 : decode cJ1_charAt_3b067 3 = .ok (.invokestatic 9, 3) := by decide +kernel
theorem dJ1_charAt_3b067_6 : decode cJ1_charAt_3b067 6 = .ok (.aload_n 0, 1) := by decide +kernel
theorem dJ1_charAt_3b067_7 : decode cJ1_charAt_3b067 7 = .ok (.iload_n 1, 1) := by decide +kernel
theorem dJ1_charAt_3b067_8 : decode cJ1_charAt_3b067 8 = .ok (.baload, 1) := by decide +kernel
theorem dJ1_charAt_3b067_9 : decode cJ1_charAt_3b067 9 = .ok (.sipush 255, 3) := by decide +kernel
theorem dJ1_charAt_3b067_12 : decode cJ1_charAt_3b067 12 = .ok (.iand, 1) := by decide +kernel
theorem dJ1_charAt_3b067_13 : decode cJ1_charAt_3b067 13 = .ok (.i2c, 1) := by decide +kernel
theorem dJ1_charAt_3b067_14 : decode cJ1_charAt_3b067 14 = .ok (.ireturn, 1) := by decide +kernel
theorem dJ1_canEncode_9a6ad_0 : decode cJ1_canEncode_9a6ad 0 = .ok (.iload_n 0, 1) := by decide +kernel
theorem dJ1_canEncode_9a6ad_1 : decode cJ1_canEncode_9a6ad 1 = .ok (.ifCond .lt 14, 3) := by decide +kernel
theorem dJ1_canEncode_9a6ad_4 : decode cJ1_canEncode_9a6ad 4 = .ok (.iload_n 0, 1) := by decide +kernel
theorem dJ1_canEncode_9a6ad_5 : decode cJ1_canEncode_9a6ad 5 = .ok (.sipush 255, 3) := by decide +kernel
theorem dJ1_canEncode_9a6ad_8 : decode cJ1_canEncode_9a6ad 8 = .ok (.if_icmp .gt 7, 3) := by decide +kernel
theorem dJ1_canEncode_9a6ad_11 : decode cJ1_canEncode_9a6ad 11 = .ok (.iconst 1, 1) := by decide +kernel
theorem dJ1_canEncode_9a6ad_12 : decode cJ1_canEncode_9a6ad 12 = .ok (.goto 4, 3) := by decide +kernel
theorem dJ1_canEncode_9a6ad_15 : decode cJ1_canEncode_9a6ad 15 = .ok (.iconst 0, 1) := by decide +kernel
theorem dJ1_canEncode_9a6ad_16 : decode cJ1_canEncode_9a6ad 16 = .ok (.ireturn, 1) := by decide +kernel
theorem dJ1_indexOf_4cfef_0 : decode cJ1_indexOf_4cfef 0 = .ok (.iload_n 1, 1) := by decide +kernel
theorem dJ1_indexOf_4cfef_1 : decode cJ1_indexOf_4cfef 1 = .ok (.invokestatic 88, 3) := by decide +kernel
theorem dJ1_indexOf_4cfef_4 : decode cJ1_indexOf_4cfef 4 = .ok (.ifCond .ne 5, 3) := by decide +kernel
theorem dJ1_indexOf_4cfef_7 : decode cJ1_indexOf_4cfef 7 = .ok (.iconst (-1), 1) := by decide +kernel
theorem dJ1_indexOf_4cfef_8 : decode cJ1_indexOf_4cfef 8 = .ok (.ireturn, 1) := by decide +kernel
theorem dJ1_indexOf_4cfef_9 : decode cJ1_indexOf_4cfef 9 = .ok (.iload_n 2, 1) := by decide +kernel
theorem dJ1_indexOf_4cfef_10 : decode cJ1_indexOf_4cfef 10 = .ok (.iconst 0, 1) := by decide +kernel
theorem dJ1_indexOf_4cfef_11 : decode cJ1_indexOf_4cfef 11 = .ok (.invokestatic 92, 3) := by decide +kernel
theorem dJ1_indexOf_4cfef_14 : decode cJ1_indexOf_4cfef 14 = .ok (.istore_n 2, 1) := by decide +kernel
theorem dJ1_indexOf_4cfef_15 : decode cJ1_indexOf_4cfef 15 = .ok (.iload_n 3, 1) := by decide +kernel
theorem dJ1_indexOf_4cfef_16 : decode cJ1_indexOf_4cfef 16 = .ok (.aload_n 0, 1) := by decide +kernel
theorem dJ1_indexOf_4cfef_17 : decode cJ1_indexOf_4cfef 17 = .ok (.arraylength, 1) := by decide +kernel
theorem dJ1_indexOf_4cfef_18 : decode cJ1_indexOf_4cfef 18 = .ok (.invokestatic 38, 3) := by decide +kernel
theorem dJ1_indexOf_4cfef_21 : decode cJ1_indexOf_4cfef 21 = .ok (.istore_n 3, 1) := by decide +kernel
theorem dJ1_indexOf_4cfef_22 : decode cJ1_indexOf_4cfef 22 = .ok (.iload_n 2, 1) := by decide +kernel
theorem dJ1_indexOf_4cfef_23 : decode cJ1_indexOf_4cfef 23 = .ok (.iload_n 3, 1) := by decide +kernel
theorem dJ1_indexOf_4cfef_24 : decode cJ1_indexOf_4cfef 24 = .ok (.if_icmp .lt 5, 3) := by decide +kernel
theorem dJ1_indexOf_4cfef_27 : decode cJ1_indexOf_4cfef 27 = .ok (.iconst (-1), 1) := by decide +kernel
theorem dJ1_indexOf_4cfef_28 : decode cJ1_indexOf_4cfef 28 = .ok (.ireturn, 1) := by decide +kernel
theorem dJ1_indexOf_4cfef_29 : decode cJ1_indexOf_4cfef 29 = .ok (.aload_n 0, 1) := by decide +kernel
theorem dJ1_indexOf_4cfef_30 : decode cJ1_indexOf_4cfef 30 = .ok (.iload_n 1, 1) := by decide +kernel
theorem dJ1_indexOf_4cfef_31 : decode cJ1_indexOf_4cfef 31 = .ok (.iload_n 2, 1) := by decide +kernel
theorem dJ1_indexOf_4cfef_32 : decode cJ1_indexOf_4cfef 32 = .ok (.iload_n 3, 1) := by decide +kernel
theorem dJ1_indexOf_4cfef_33 : decode cJ1_indexOf_4cfef 33 = .ok (.invokestatic 95, 3) := by decide +kernel
theorem dJ1_indexOf_4cfef_36 : decode cJ1_indexOf_4cfef 36 = .ok (.ireturn, 1) := by decide +kernel
theorem dJ1_indexOfChar_4cfef_0 : decode cJ1_indexOfChar_4cfef 0 = .ok (.iload_n 1, 1) := by decide +kernel
theorem dJ1_indexOfChar_4cfef_1 : decode cJ1_indexOfChar_4cfef 1 = .ok (.i2b, 1) := by decide +kernel
theorem dJ1_indexOfChar_4cfef_2 : decode cJ1_indexOfChar_4cfef 2 = .ok (.istore 4, 2) := by decide +kernel
theorem dJ1_indexOfChar_4cfef_4 : decode cJ1_indexOfChar_4cfef 4 = .ok (.iload_n 2, 1) := by decide +kernel
theorem dJ1_indexOfChar_4cfef_5 : decode cJ1_indexOfChar_4cfef 5 = .ok (.istore 5, 2) := by decide +kernel
theorem dJ1_indexOfChar_4cfef_7 : decode cJ1_indexOfChar_4cfef 7 = .ok (.iload 5, 2) := by decide +kernel
theorem dJ1_indexOfChar_4cfef_9 : decode cJ1_indexOfChar_4cfef 9 = .ok (.iload_n 3, 1) := by decide +kernel
theorem dJ1_indexOfChar_4cfef_10 : decode cJ1_indexOfChar_4cfef 10 = .ok (.if_icmp .ge 21, 3) := by decide +kernel
theorem dJ1_indexOfChar_4cfef_13 : decode cJ1_indexOfChar_4cfef 13 = .ok (.aload_n 0, 1) := by decide +kernel
theorem dJ1_indexOfChar_4cfef_14 : decode cJ1_indexOfChar_4cfef 14 = .ok (.iload 5, 2) := by decide +kernel
theorem dJ1_indexOfChar_4cfef_16 : decode cJ1_indexOfChar_4cfef 16 = .ok (.baload, 1) := by decide +kernel
theorem dJ1_indexOfChar_4cfef_17 : decode cJ1_indexOfChar_4cfef 17 = .ok (.iload 4, 2) := by decide +kernel
theorem dJ1_indexOfChar_4cfef_19 : decode cJ1_indexOfChar_4cfef 19 = .ok (.if_icmp .ne 6, 3) := by decide +kernel
theorem dJ1_indexOfChar_4cfef_22 : decode cJ1_indexOfChar_4cfef 22 = .ok (.iload 5, 2) := by decide +kernel
theorem dJ1_indexOfChar_4cfef_24 : decode cJ1_indexOfChar_4cfef 24 = .ok (.ireturn, 1) := by decide +kernel
theorem dJ1_indexOfChar_4cfef_25 : decode cJ1_indexOfChar_4cfef 25 = .ok (.iinc 5 1, 3) := by decide +kernel
theorem dJ1_indexOfChar_4cfef_28 : decode cJ1_indexOfChar_4cfef 28 = .ok (.goto (-21), 3) := by decide +kernel
theorem dJ1_indexOfChar_4cfef_31 : decode cJ1_indexOfChar_4cfef 31 = .ok (.iconst (-1), 1) := by decide +kernel
theorem dJ1_indexOfChar_4cfef_32 : decode cJ1_indexOfChar_4cfef 32 = .ok (.ireturn, 1) := by decide +kernel
theorem dJ2_getChar_3b067_0 : decode cJ2_getChar_3b067 0 = .ok (.getstatic 44, 3) := by decide +kernel
theorem dJ2_getChar_3b067_3 : decode cJ2_getChar_3b067 3 = .ok (.ifCond .ne 25, 3) := by decide +kernel
theorem dJ2_getChar_3b067_6 : decode cJ2_getChar_3b067 6 = .ok (.iload_n 1, 1) := by decide +kernel
theorem dJ2_getChar_3b067_7 : decode cJ2_getChar_3b067 7 = .ok (.ifCond .lt 11, 3) := by decide +kernel
theorem dJ2_getChar_3b067_10 : decode cJ2_getChar_3b067 10 = .ok (.iload_n 1, 1) := by decide +kernel
theorem dJ2_getChar_3b067_11 : decode cJ2_getChar_3b067 11 = .ok (.aload_n 0, 1) := by decide +kernel
theorem dJ2_getChar_3b067_12 : decode cJ2_getChar_3b067 12 = .ok (.invokestatic 48, 3) := by decide +kernel
theorem dJ2_getChar_3b067_15 : decode cJ2_getChar_3b067 15 = .ok (.if_icmp .lt 13, 3) := by decide +kernel
theorem dJ2_getChar_3b067_18 : decode cJ2_getChar_3b067 18 = .ok (.new 52, 3) := by decide +kernel
theorem dJ2_getChar_3b067_21 : decode cJ2_getChar_3b067 21 = .ok (.dup, 1) := by decide +kernel
theorem dJ2_getChar_3b067_22 : decode cJ2_getChar_3b067 22 = .ok (.ldc 54, 2) := by decide +kernel
theorem dJ2_getChar_3b067_24 : decode cJ2_getChar_3b067 24 = .ok (.invokespecial 56, 3) := by decide +kernel
theorem dJ2_getChar_3b067_27 : decode cJ2_getChar_3b067 27 = .ok (.athrow, 1) := by decide +kernel
theorem dJ2_getChar_3b067_28 : decode cJ2_getChar_3b067 28 = .ok (.iload_n 1, 1) := by decide +kernel
theorem dJ2_getChar_3b067_29 : decode cJ2_getChar_3b067 29 = .ok (.iconst 1, 1) := by decide +kernel
theorem dJ2_getChar_3b067_30 : decode cJ2_getChar_3b067 30 = .ok (.ishl, 1) := by decide +kernel
theorem dJ2_getChar_3b067_31 : decode cJ2_getChar_3b067 31 = .ok (.istore_n 1, 1) := by decide +kernel
theorem dJ2_getChar_3b067_32 : decode cJ2_getChar_3b067 32 = .ok (.aload_n 0, 1) := by decide +kernel
theorem dJ2_getChar_3b067_33 : decode cJ2_getChar_3b067 33 = .ok (.iload_n 1, 1) := by decide +kernel
theorem dJ2_getChar_3b067_34 : decode cJ2_getChar_3b067 34 = .ok (.iinc 1 1, 3) := by decide +kernel
theorem dJ2_getChar_3b067_37 : decode cJ2_getChar_3b067 37 = .ok (.baload, 1) := by decide +kernel
theorem dJ2_getChar_3b067_38 : decode cJ2_getChar_3b067 38 = .ok (.sipush 255, 3) := by decide +kernel
theorem dJ2_getChar_3b067_41 : decode cJ2_getChar_3b067 41 = .ok (.iand, 1) := by decide +kernel
theorem dJ2_getChar_3b067_42 : decode cJ2_getChar_3b067 42 = .ok (.getstatic 59, 3) := by decide +kernel
theorem dJ2_getChar_3b067_45 : decode cJ2_getChar_3b067 45 = .ok (.ishl, 1) := by decide +kernel
theorem dJ2_getChar_3b067_46 : decode cJ2_getChar_3b067 46 = .ok (.aload_n 0, 1) := by decide +kernel
theorem dJ2_getChar_3b067_47 : decode cJ2_getChar_3b067 47 = .ok (.iload_n 1, 1) := by decide +kernel
theorem dJ2_getChar_3b067_48 : decode cJ2_getChar_3b067 48 = .ok (.baload, 1) := by decide +kernel
theorem dJ2_getChar_3b067_49 : decode cJ2_getChar_3b067 49 = .ok (.sipush 255, 3) := by decide +kernel
theorem dJ2_getChar_3b067_52 : decode cJ2_getChar_3b067 52 = .ok (.iand, 1) := by decide +kernel
theorem dJ2_getChar_3b067_53 : decode cJ2_getChar_3b067 53 = .ok (.getstatic 63, 3) := by decide +kernel
theorem dJ2_getChar_3b067_56 : decode cJ2_getChar_3b067 56 = .ok (.ishl, 1) := by decide +kernel
theorem dJ2_getChar_3b067_57 : decode cJ2_getChar_3b067 57 = .ok (.ior, 1) := by decide +kernel
theorem dJ2_getChar_3b067_58 : decode cJ2_getChar_3b067 58 = .ok (.i2c, 1) := by decide +kernel
theorem dJ2_getChar_3b067_59 : decode cJ2_getChar_3b067 59 = .ok (.ireturn, 1) := by decide +kernel
theorem dJ2_length_9d52b_0 : decode cJ2_length_9d52b 0 = .ok (.aload_n 0, 1) := by decide +kernel
theorem dJ2_length_9d52b_1 : decode cJ2_length_9d52b 1 = .ok (.arraylength, 1) := by decide +kernel
theorem dJ2_length_9d52b_2 : decode cJ2_length_9d52b 2 = .ok (.iconst 1, 1) := by decide +kernel
theorem dJ2_length_9d52b_3 : decode cJ2_length_9d52b 3 = .ok (.ishr, 1) := by decide +kernel
theorem dJ2_length_9d52b_4 : decode cJ2_length_9d52b 4 = .ok (.ireturn, 1) := by decide +kernel
theorem dJ2_indexOf_4cfef_0 : decode cJ2_indexOf_4cfef 0 = .ok (.iload_n 2, 1) := by decide +kernel
theorem dJ2_indexOf_4cfef_1 : decode cJ2_indexOf_4cfef 1 = .ok (.iconst 0, 1) := by decide +kernel
theorem dJ2_indexOf_4cfef_2 : decode cJ2_indexOf_4cfef 2 = .ok (.invokestatic 224, 3) := by decide +kernel
theorem dJ2_indexOf_4cfef_5 : decode cJ2_indexOf_4cfef 5 = .ok (.istore_n 2, 1) := by decide +kernel
theorem dJ2_indexOf_4cfef_6 : decode cJ2_indexOf_4cfef 6 = .ok (.iload_n 3, 1) := by decide +kernel
theorem dJ2_indexOf_4cfef_7 : decode cJ2_indexOf_4cfef 7 = .ok (.aload_n 0, 1) := by decide +kernel
theorem dJ2_indexOf_4cfef_8 : decode cJ2_indexOf_4cfef 8 = .ok (.arraylength, 1) := by decide +kernel
theorem dJ2_indexOf_4cfef_9 : decode cJ2_indexOf_4cfef 9 = .ok (.iconst 1, 1) := by decide +kernel
theorem dJ2_indexOf_4cfef_10 : decode cJ2_indexOf_4cfef 10 = .ok (.ishr, 1) := by decide +kernel
theorem dJ2_indexOf_4cfef_11 : decode cJ2_indexOf_4cfef 11 = .ok (.invokestatic 183, 3) := by decide +kernel
theorem dJ2_indexOf_4cfef_14 : decode cJ2_indexOf_4cfef 14 = .ok (.istore_n 3, 1) := by decide +kernel
theorem dJ2_indexOf_4cfef_15 : decode cJ2_indexOf_4cfef 15 = .ok (.iload_n 2, 1) := by decide +kernel
theorem dJ2_indexOf_4cfef_16 : decode cJ2_indexOf_4cfef 16 = .ok (.iload_n 3, 1) := by decide +kernel
theorem dJ2_indexOf_4cfef_17 : decode cJ2_indexOf_4cfef 17 = .ok (.if_icmp .lt 5, 3) := by decide +kernel
theorem dJ2_indexOf_4cfef_20 : decode cJ2_indexOf_4cfef 20 = .ok (.iconst (-1), 1) := by decide +kernel
theorem dJ2_indexOf_4cfef_21 : decode cJ2_indexOf_4cfef 21 = .ok (.ireturn, 1) := by decide +kernel
theorem dJ2_indexOf_4cfef_22 : decode cJ2_indexOf_4cfef 22 = .ok (.iload_n 1, 1) := by decide +kernel
theorem dJ2_indexOf_4cfef_23 : decode cJ2_indexOf_4cfef 23 = .ok (.ldc 227, 2) := by decide +kernel
theorem dJ2_indexOf_4cfef_25 : decode cJ2_indexOf_4cfef 25 = .ok (.if_icmp .ge 11, 3) := by decide +kernel
theorem dJ2_indexOf_4cfef_28 : decode cJ2_indexOf_4cfef 28 = .ok (.aload_n 0, 1) := by decide +kernel
theorem dJ2_indexOf_4cfef_29 : decode cJ2_indexOf_4cfef 29 = .ok (.iload_n 1, 1) := by decide +kernel
theorem dJ2_indexOf_4cfef_30 : decode cJ2_indexOf_4cfef 30 = .ok (.iload_n 2, 1) := by decide +kernel
theorem dJ2_indexOf_4cfef_31 : decode cJ2_indexOf_4cfef 31 = .ok (.iload_n 3, 1) := by decide +kernel
theorem dJ2_indexOf_4cfef_32 : decode cJ2_indexOf_4cfef 32 = .ok (.invokestatic 228, 3) := by decide +kernel
theorem dJ2_indexOf_4cfef_35 : decode cJ2_indexOf_4cfef 35 = .ok (.ireturn, 1) := by decide +kernel
theorem dJ2_indexOf_4cfef_36 : decode cJ2_indexOf_4cfef 36 = .ok (.aload_n 0, 1) := by decide +kernel
theorem dJ2_indexOf_4cfef_37 : decode cJ2_indexOf_4cfef 37 = .ok (.iload_n 1, 1) := by decide +kernel
theorem dJ2_indexOf_4cfef_38 : decode cJ2_indexOf_4cfef 38 = .ok (.iload_n 2, 1) := by decide +kernel
theorem dJ2_indexOf_4cfef_39 : decode cJ2_indexOf_4cfef 39 = .ok (.iload_n 3, 1) := by decide +kernel
theorem dJ2_indexOf_4cfef_40 : decode cJ2_indexOf_4cfef 40 = .ok (.invokestatic 232, 3) := by decide +kernel
theorem dJ2_indexOf_4cfef_43 : decode cJ2_indexOf_4cfef 43 = .ok (.ireturn, 1) := by decide +kernel
theorem dJ2_indexOfChar_4cfef_0 : decode cJ2_indexOfChar_4cfef 0 = .ok (.iload_n 2, 1) := by decide +kernel
theorem dJ2_indexOfChar_4cfef_1 : decode cJ2_indexOfChar_4cfef 1 = .ok (.iload_n 3, 1) := by decide +kernel
theorem dJ2_indexOfChar_4cfef_2 : decode cJ2_indexOfChar_4cfef 2 = .ok (.aload_n 0, 1) := by decide +kernel
theorem dJ2_indexOfChar_4cfef_3 : decode cJ2_indexOfChar_4cfef 3 = .ok (.invokestatic 96, 3) := by decide +kernel
theorem dJ2_indexOfChar_4cfef_6 : decode cJ2_indexOfChar_4cfef 6 = .ok (.aload_n 0, 1) := by decide +kernel
theorem dJ2_indexOfChar_4cfef_7 : decode cJ2_indexOfChar_4cfef 7 = .ok (.iload_n 1, 1) := by decide +kernel
theorem dJ2_indexOfChar_4cfef_8 : decode cJ2_indexOfChar_4cfef 8 = .ok (.iload_n 2, 1) := by decide +kernel
theorem dJ2_indexOfChar_4cfef_9 : decode cJ2_indexOfChar_4cfef 9 = .ok (.iload_n 3, 1) := by decide +kernel
theorem dJ2_indexOfChar_4cfef_10 : decode cJ2_indexOfChar_4cfef 10 = .ok (.invokestatic 244, 3) := by decide +kernel
theorem dJ2_indexOfChar_4cfef_13 : decode cJ2_indexOfChar_4cfef 13 = .ok (.ireturn, 1) := by decide +kernel
theorem dJ2_indexOfCharUnsafe_4cfef_0 : decode cJ2_indexOfCharUnsafe_4cfef 0 = .ok (.iload_n 2, 1) := by decide +kernel
theorem dJ2_indexOfCharUnsafe_4cfef_1 : decode cJ2_indexOfCharUnsafe_4cfef 1 = .ok (.istore 4, 2) := by decide +kernel
theorem dJ2_indexOfCharUnsafe_4cfef_3 : decode cJ2_indexOfCharUnsafe_4cfef 3 = .ok (.iload 4, 2) := by decide +kernel
theorem dJ2_indexOfCharUnsafe_4cfef_5 : decode cJ2_indexOfCharUnsafe_4cfef 5 = .ok (.iload_n 3, 1) := by decide +kernel
theorem dJ2_indexOfCharUnsafe_4cfef_6 : decode cJ2_indexOfCharUnsafe_4cfef 6 = .ok (.if_icmp .ge 22, 3) := by decide +kernel
theorem dJ2_indexOfCharUnsafe_4cfef_9 : decode cJ2_indexOfCharUnsafe_4cfef 9 = .ok (.aload_n 0, 1) := by decide +kernel
theorem dJ2_indexOfCharUnsafe_4cfef_10 : decode cJ2_indexOfCharUnsafe_4cfef 10 = .ok (.iload 4, 2) := by decide +kernel
theorem dJ2_indexOfCharUnsafe_4cfef_12 : decode cJ2_indexOfCharUnsafe_4cfef 12 = .ok (.invokestatic 71, 3) := by decide +kernel
theorem dJ2_indexOfCharUnsafe_4cfef_15 : decode cJ2_indexOfCharUnsafe_4cfef 15 = .ok (.iload_n 1, 1) := by decide +kernel
theorem dJ2_indexOfCharUnsafe_4cfef_16 : decode cJ2_indexOfCharUnsafe_4cfef 16 = .ok (.if_icmp .ne 6, 3) := by decide +kernel
theorem dJ2_indexOfCharUnsafe_4cfef_19 : decode cJ2_indexOfCharUnsafe_4cfef 19 = .ok (.iload 4, 2) := by decide +kernel
theorem dJ2_indexOfCharUnsafe_4cfef_21 : decode cJ2_indexOfCharUnsafe_4cfef 21 = .ok (.ireturn, 1) := by decide +kernel
theorem dJ2_indexOfCharUnsafe_4cfef_22 : decode cJ2_indexOfCharUnsafe_4cfef 22 = .ok (.iinc 4 1, 3) := by decide +kernel
theorem dJ2_indexOfCharUnsafe_4cfef_25 : decode cJ2_indexOfCharUnsafe_4cfef 25 = .ok (.goto (-22), 3) := by decide +kernel
theorem dJ2_indexOfCharUnsafe_4cfef_28 : decode cJ2_indexOfCharUnsafe_4cfef 28 = .ok (.iconst (-1), 1) := by decide +kernel
theorem dJ2_indexOfCharUnsafe_4cfef_29 : decode cJ2_indexOfCharUnsafe_4cfef 29 = .ok (.ireturn, 1) := by decide +kernel
theorem dJ2_indexOfSupplementary_4cfef_0 : decode cJ2_indexOfSupplementary_4cfef 0 = .ok (.iload_n 1, 1) := by decide +kernel
theorem dJ2_indexOfSupplementary_4cfef_1 : decode cJ2_indexOfSupplementary_4cfef 1 = .ok (.invokestatic 164, 3) := by decide +kernel
theorem dJ2_indexOfSupplementary_4cfef_4 : decode cJ2_indexOfSupplementary_4cfef 4 = .ok (.ifCond .eq 65, 3) := by decide +kernel
theorem dJ2_indexOfSupplementary_4cfef_7 : decode cJ2_indexOfSupplementary_4cfef 7 = .ok (.iload_n 1, 1) := by decide +kernel
theorem dJ2_indexOfSupplementary_4cfef_8 : decode cJ2_indexOfSupplementary_4cfef 8 = .ok (.invokestatic 157, 3) := by decide +kernel
theorem dJ2_indexOfSupplementary_4cfef_11 : decode cJ2_indexOfSupplementary_4cfef 11 = .ok (.istore 4, 2) := by decide +kernel
theorem dJ2_indexOfSupplementary_4cfef_13 : decode cJ2_indexOfSupplementary_4cfef 13 = .ok (.iload_n 1, 1) := by decide +kernel
theorem dJ2_indexOfSupplementary_4cfef_14 : decode cJ2_indexOfSupplementary_4cfef 14 = .ok (.invokestatic 161, 3) := by decide +kernel
theorem dJ2_indexOfSupplementary_4cfef_17 : decode cJ2_indexOfSupplementary_4cfef 17 = .ok (.istore 5, 2) := by decide +kernel
theorem dJ2_indexOfSupplementary_4cfef_19 : decode cJ2_indexOfSupplementary_4cfef 19 = .ok (.iload_n 2, 1) := by decide +kernel
theorem dJ2_indexOfSupplementary_4cfef_20 : decode cJ2_indexOfSupplementary_4cfef 20 = .ok (.iload_n 3, 1) := by decide +kernel
theorem dJ2_indexOfSupplementary_4cfef_21 : decode cJ2_indexOfSupplementary_4cfef 21 = .ok (.aload_n 0, 1) := by decide +kernel
theorem dJ2_indexOfSupplementary_4cfef_22 : decode cJ2_indexOfSupplementary_4cfef 22 = .ok (.invokestatic 96, 3) := by decide +kernel
theorem dJ2_indexOfSupplementary_4cfef_25 : decode cJ2_indexOfSupplementary_4cfef 25 = .ok (.iload_n 2, 1) := by decide +kernel
theorem dJ2_indexOfSupplementary_4cfef_26 : decode cJ2_indexOfSupplementary_4cfef 26 = .ok (.istore 6, 2) := by decide +kernel
theorem dJ2_indexOfSupplementary_4cfef_28 : decode cJ2_indexOfSupplementary_4cfef 28 = .ok (.iload 6, 2) := by decide +kernel
theorem dJ2_indexOfSupplementary_4cfef_30 : decode cJ2_indexOfSupplementary_4cfef 30 = .ok (.iload_n 3, 1) := by decide +kernel
theorem dJ2_indexOfSupplementary_4cfef_31 : decode cJ2_indexOfSupplementary_4cfef 31 = .ok (.iconst 1, 1) := by decide +kernel
theorem dJ2_indexOfSupplementary_4cfef_32 : decode cJ2_indexOfSupplementary_4cfef 32 = .ok (.isub, 1) := by decide +kernel
theorem dJ2_indexOfSupplementary_4cfef_33 : decode cJ2_indexOfSupplementary_4cfef 33 = .ok (.if_icmp .ge 36, 3) := by decide +kernel
theorem dJ2_indexOfSupplementary_4cfef_36 : decode cJ2_indexOfSupplementary_4cfef 36 = .ok (.aload_n 0, 1) := by decide +kernel
theorem dJ2_indexOfSupplementary_4cfef_37 : decode cJ2_indexOfSupplementary_4cfef 37 = .ok (.iload 6, 2) := by decide +kernel
theorem dJ2_indexOfSupplementary_4cfef_39 : decode cJ2_indexOfSupplementary_4cfef 39 = .ok (.invokestatic 71, 3) := by decide +kernel
theorem dJ2_indexOfSupplementary_4cfef_42 : decode cJ2_indexOfSupplementary_4cfef 42 = .ok (.iload 4, 2) := by decide +kernel
theorem dJ2_indexOfSupplementary_4cfef_44 : decode cJ2_indexOfSupplementary_4cfef 44 = .ok (.if_icmp .ne 19, 3) := by decide +kernel
theorem dJ2_indexOfSupplementary_4cfef_47 : decode cJ2_indexOfSupplementary_4cfef 47 = .ok (.aload_n 0, 1) := by decide +kernel
theorem dJ2_indexOfSupplementary_4cfef_48 : decode cJ2_indexOfSupplementary_4cfef 48 = .ok (.iload 6, 2) := by decide +kernel
theorem dJ2_indexOfSupplementary_4cfef_50 : decode cJ2_indexOfSupplementary_4cfef 50 = .ok (.iconst 1, 1) := by decide +kernel
theorem dJ2_indexOfSupplementary_4cfef_51 : decode cJ2_indexOfSupplementary_4cfef 51 = .ok (.iadd, 1) := by decide +kernel
theorem dJ2_indexOfSupplementary_4cfef_52 : decode cJ2_indexOfSupplementary_4cfef 52 = .ok (.invokestatic 71, 3) := by decide +kernel
theorem dJ2_indexOfSupplementary_4cfef_55 : decode cJ2_indexOfSupplementary_4cfef 55 = .ok (.iload 5, 2) := by decide +kernel
theorem dJ2_indexOfSupplementary_4cfef_57 : decode cJ2_indexOfSupplementary_4cfef 57 = .ok (.if_icmp .ne 6, 3) := by decide +kernel
theorem dJ2_indexOfSupplementary_4cfef_60 : decode cJ2_indexOfSupplementary_4cfef 60 = .ok (.iload 6, 2) := by decide +kernel
theorem dJ2_indexOfSupplementary_4cfef_62 : decode cJ2_indexOfSupplementary_4cfef 62 = .ok (.ireturn, 1) := by decide +kernel
theorem dJ2_indexOfSupplementary_4cfef_63 : decode cJ2_indexOfSupplementary_4cfef 63 = .ok (.iinc 6 1, 3) := by decide +kernel
theorem dJ2_indexOfSupplementary_4cfef_66 : decode cJ2_indexOfSupplementary_4cfef 66 = .ok (.goto (-38), 3) := by decide +kernel
theorem dJ2_indexOfSupplementary_4cfef_69 : decode cJ2_indexOfSupplementary_4cfef 69 = .ok (.iconst (-1), 1) := by decide +kernel
theorem dJ2_indexOfSupplementary_4cfef_70 : decode cJ2_indexOfSupplementary_4cfef 70 = .ok (.ireturn, 1) := by decide +kernel
theorem dJ2_charAt_3b067_0 : decode cJ2_charAt_3b067 0 = .ok (.iload_n 1, 1) := by decide +kernel
theorem dJ2_charAt_3b067_1 : decode cJ2_charAt_3b067 1 = .ok (.aload_n 0, 1) := by decide +kernel
theorem dJ2_charAt_3b067_2 : decode cJ2_charAt_3b067 2 = .ok (.invokestatic 67, 3) := by decide +kernel
theorem dJ2_charAt_3b067_5 : decode cJ2_charAt_3b067 5 = .ok (.aload_n 0, 1) := by decide +kernel
theorem dJ2_charAt_3b067_6 : decode cJ2_charAt_3b067 6 = .ok (.iload_n 1, 1) := by decide +kernel
theorem dJ2_charAt_3b067_7 : decode cJ2_charAt_3b067 7 = .ok (.invokestatic 71, 3) := by decide +kernel
theorem dJ2_charAt_3b067_10 : decode cJ2_charAt_3b067 10 = .ok (.ireturn, 1) := by decide +kernel
theorem dJ2_checkIndex_2214a_0 : decode cJ2_checkIndex_2214a 0 = .ok (.iload_n 0, 1) := by decide +kernel
theorem dJ2_checkIndex_2214a_1 : decode cJ2_checkIndex_2214a 1 = .ok (.aload_n 1, 1) := by decide +kernel
theorem dJ2_checkIndex_2214a_2 : decode cJ2_checkIndex_2214a 2 = .ok (.invokestatic 48, 3) := by decide +kernel
theorem dJ2_checkIndex_2214a_5 : decode cJ2_checkIndex_2214a 5 = .ok (.invokestatic 414, 3) := by decide +kernel
theorem dJ2_checkIndex_2214a_8 : decode cJ2_checkIndex_2214a 8 = .ok (.return_, 1) := by decide +kernel
theorem dJ2_checkBoundsBeginEnd_d044e_0 : decode cJ2_checkBoundsBeginEnd_d044e 0 = .ok (.iload_n 0, 1) := by decide +kernel
theorem dJ2_checkBoundsBeginEnd_d044e_1 : decode cJ2_checkBoundsBeginEnd_d044e 1 = .ok (.iload_n 1, 1) := by decide +kernel
theorem dJ2_checkBoundsBeginEnd_d044e_2 : decode cJ2_checkBoundsBeginEnd_d044e 2 = .ok (.aload_n 2, 1) := by decide +kernel
theorem dJ2_checkBoundsBeginEnd_d044e_3 : decode cJ2_checkBoundsBeginEnd_d044e 3 = .ok (.invokestatic 48, 3) := by decide +kernel
theorem dJ2_checkBoundsBeginEnd_d044e_6 : decode cJ2_checkBoundsBeginEnd_d044e 6 = .ok (.invokestatic 241, 3) := by decide +kernel
theorem dJ2_checkBoundsBeginEnd_d044e_9 : decode cJ2_checkBoundsBeginEnd_d044e 9 = .ok (.return_, 1) := by decide +kernel
theorem dJ7_fill_d0a16_0 : decode cJ7_fill_d0a16 0 = .ok (.iconst 0, 1) := by decide +kernel
theorem dJ7_fill_d0a16_1 : decode cJ7_fill_d0a16 1 = .ok (.istore_n 3, 1) := by decide +kernel
theorem dJ7_fill_d0a16_2 : decode cJ7_fill_d0a16 2 = .ok (.aload_n 0, 1) := by decide +kernel
theorem dJ7_fill_d0a16_3 : decode cJ7_fill_d0a16 3 = .ok (.arraylength, 1) := by decide +kernel
theorem dJ7_fill_d0a16_4 : decode cJ7_fill_d0a16 4 = .ok (.istore 4, 2) := by decide +kernel
theorem dJ7_fill_d0a16_6 : decode cJ7_fill_d0a16 6 = .ok (.iload_n 3, 1) := by decide +kernel
theorem dJ7_fill_d0a16_7 : decode cJ7_fill_d0a16 7 = .ok (.iload 4, 2) := by decide +kernel
theorem dJ7_fill_d0a16_9 : decode cJ7_fill_d0a16 9 = .ok (.if_icmp .ge 13, 3) := by decide +kernel
theorem dJ7_fill_d0a16_12 : decode cJ7_fill_d0a16 12 = .ok (.aload_n 0, 1) := by decide +kernel
theorem dJ7_fill_d0a16_13 : decode cJ7_fill_d0a16 13 = .ok (.iload_n 3, 1) := by decide +kernel
theorem dJ7_fill_d0a16_14 : decode cJ7_fill_d0a16 14 = .ok (.lload_n 1, 1) := by decide +kernel
theorem dJ7_fill_d0a16_15 : decode cJ7_fill_d0a16 15 = .ok (.lastore, 1) := by decide +kernel
theorem dJ7_fill_d0a16_16 : decode cJ7_fill_d0a16 16 = .ok (.iinc 3 1, 3) := by decide +kernel
theorem dJ7_fill_d0a16_19 : decode cJ7_fill_d0a16 19 = .ok (.goto (-13), 3) := by decide +kernel
theorem dJ7_fill_d0a16_22 : decode cJ7_fill_d0a16 22 = .ok (.return_, 1) := by decide +kernel
theorem dJ7_fill_53178_0 : decode cJ7_fill_53178 0 = .ok (.iconst 0, 1) := by decide +kernel
theorem dJ7_fill_53178_1 : decode cJ7_fill_53178 1 = .ok (.istore_n 2, 1) := by decide +kernel
theorem dJ7_fill_53178_2 : decode cJ7_fill_53178 2 = .ok (.aload_n 0, 1) := by decide +kernel
theorem dJ7_fill_53178_3 : decode cJ7_fill_53178 3 = .ok (.arraylength, 1) := by decide +kernel
theorem dJ7_fill_53178_4 : decode cJ7_fill_53178 4 = .ok (.istore_n 3, 1) := by decide +kernel
theorem dJ7_fill_53178_5 : decode cJ7_fill_53178 5 = .ok (.iload_n 2, 1) := by decide +kernel
theorem dJ7_fill_53178_6 : decode cJ7_fill_53178 6 = .ok (.iload_n 3, 1) := by decide +kernel
theorem dJ7_fill_53178_7 : decode cJ7_fill_53178 7 = .ok (.if_icmp .ge 13, 3) := by decide +kernel
theorem dJ7_fill_53178_10 : decode cJ7_fill_53178 10 = .ok (.aload_n 0, 1) := by decide +kernel
theorem dJ7_fill_53178_11 : decode cJ7_fill_53178 11 = .ok (.iload_n 2, 1) := by decide +kernel
theorem dJ7_fill_53178_12 : decode cJ7_fill_53178 12 = .ok (.iload_n 1, 1) := by decide +kernel
theorem dJ7_fill_53178_13 : decode cJ7_fill_53178 13 = .ok (.iastore, 1) := by decide +kernel
theorem dJ7_fill_53178_14 : decode cJ7_fill_53178 14 = .ok (.iinc 2 1, 3) := by decide +kernel
theorem dJ7_fill_53178_17 : decode cJ7_fill_53178 17 = .ok (.goto (-12), 3) := by decide +kernel
theorem dJ7_fill_53178_20 : decode cJ7_fill_53178 20 = .ok (.return_, 1) := by decide +kernel
theorem dJ3_checkIndex_8e157_0 : decode cJ3_checkIndex_8e157 0 = .ok (.iload_n 0, 1) := by decide +kernel
theorem dJ3_checkIndex_8e157_1 : decode cJ3_checkIndex_8e157 1 = .ok (.ifCond .lt 8, 3) := by decide +kernel
theorem dJ3_checkIndex_8e157_4 : decode cJ3_checkIndex_8e157 4 = .ok (.iload_n 0, 1) := by decide +kernel
theorem dJ3_checkIndex_8e157_5 : decode cJ3_checkIndex_8e157 5 = .ok (.iload_n 1, 1) := by decide +kernel
theorem dJ3_checkIndex_8e157_6 : decode cJ3_checkIndex_8e157 6 = .ok (.if_icmp .lt 10, 3) := by decide +kernel
theorem dJ3_checkIndex_8e157_9 : decode cJ3_checkIndex_8e157 9 = .ok (.aload_n 2, 1) := by decide +kernel
theorem dJ3_checkIndex_8e157_10 : decode cJ3_checkIndex_8e157 10 = .ok (.iload_n 0, 1) := by decide +kernel
theorem dJ3_checkIndex_8e157_11 : decode cJ3_checkIndex_8e157 11 = .ok (.iload_n 1, 1) := by decide +kernel
theorem dJ3_checkIndex_8e157_12 : decode cJ3_checkIndex_8e157 12 = .ok (.invokestatic 95, 3) := by decide +kernel
theorem dJ3_checkIndex_8e157_15 : decode cJ3_checkIndex_8e157 15 = .ok (.athrow, 1) := by decide +kernel
theorem dJ3_checkIndex_8e157_16 : decode cJ3_checkIndex_8e157 16 = .ok (.iload_n 0, 1) := by decide +kernel
theorem dJ3_checkIndex_8e157_17 : decode cJ3_checkIndex_8e157 17 = .ok (.ireturn, 1) := by decide +kernel
theorem dJ3_checkFromToIndex_8c36e_0 : decode cJ3_checkFromToIndex_8c36e 0 = .ok (.iload_n 0, 1) := by decide +kernel
theorem dJ3_checkFromToIndex_8c36e_1 : decode cJ3_checkFromToIndex_8c36e 1 = .ok (.ifCond .lt 13, 3) := by decide +kernel
theorem dJ3_checkFromToIndex_8c36e_4 : decode cJ3_checkFromToIndex_8c36e 4 = .ok (.iload_n 0, 1) := by decide +kernel
theorem dJ3_checkFromToIndex_8c36e_5 : decode cJ3_checkFromToIndex_8c36e 5 = .ok (.iload_n 1, 1) := by decide +kernel
theorem dJ3_checkFromToIndex_8c36e_6 : decode cJ3_checkFromToIndex_8c36e 6 = .ok (.if_icmp .gt 8, 3) := by decide +kernel
theorem dJ3_checkFromToIndex_8c36e_9 : decode cJ3_checkFromToIndex_8c36e 9 = .ok (.iload_n 1, 1) := by decide +kernel
theorem dJ3_checkFromToIndex_8c36e_10 : decode cJ3_checkFromToIndex_8c36e 10 = .ok (.iload_n 2, 1) := by decide +kernel
theorem dJ3_checkFromToIndex_8c36e_11 : decode cJ3_checkFromToIndex_8c36e 11 = .ok (.if_icmp .le 11, 3) := by decide +kernel
theorem dJ3_checkFromToIndex_8c36e_14 : decode cJ3_checkFromToIndex_8c36e 14 = .ok (.aload_n 3, 1) := by decide +kernel
theorem dJ3_checkFromToIndex_8c36e_15 : decode cJ3_checkFromToIndex_8c36e 15 = .ok (.iload_n 0, 1) := by decide +kernel
theorem dJ3_checkFromToIndex_8c36e_16 : decode cJ3_checkFromToIndex_8c36e 16 = .ok (.iload_n 1, 1) := by decide +kernel
theorem dJ3_checkFromToIndex_8c36e_17 : decode cJ3_checkFromToIndex_8c36e 17 = .ok (.iload_n 2, 1) := by decide +kernel
theorem dJ3_checkFromToIndex_8c36e_18 : decode cJ3_checkFromToIndex_8c36e 18 = .ok (.invokestatic 99, 3) := by decide +kernel
theorem dJ3_checkFromToIndex_8c36e_21 : decode cJ3_checkFromToIndex_8c36e 21 = .ok (.athrow, 1) := by decide +kernel
theorem dJ3_checkFromToIndex_8c36e_22 : decode cJ3_checkFromToIndex_8c36e 22 = .ok (.iload_n 0, 1) := by decide +kernel
theorem dJ3_checkFromToIndex_8c36e_23 : decode cJ3_checkFromToIndex_8c36e 23 = .ok (.ireturn, 1) := by decide +kernel
end
section
theorem dX6_init_0 : decode cX6_init 0 = .ok (.aload_n 0, 1) := by decide +kernel
theorem dX6_init_1 : decode cX6_init 1 = .ok (.invokespecial 1, 3) := by decide +kernel
theorem dX6_init_4 : decode cX6_init 4 = .ok (.aload_n 0, 1) := by decide +kernel
theorem dX6_init_5 : decode cX6_init 5 = .ok (.new 7, 3) := by decide +kernel
theorem dX6_init_8 : decode cX6_init 8 = .ok (.dup, 1) := by decide +kernel
theorem dX6_init_9 : decode cX6_init 9 = .ok (.invokespecial 9, 3) := by decide +kernel
theorem dX6_init_12 : decode cX6_init 12 = .ok (.putfield 10, 3) := by decide +kernel
theorem dX6_init_15 : decode cX6_init 15 = .ok (.aload_n 0, 1) := by decide +kernel
theorem dX6_init_16 : decode cX6_init 16 = .ok (.new 7, 3) := by decide +kernel
theorem dX6_init_19 : decode cX6_init 19 = .ok (.dup, 1) := by decide +kernel
theorem dX6_init_20 : decode cX6_init 20 = .ok (.invokespecial 9, 3) := by decide +kernel
theorem dX6_init_23 : decode cX6_init 23 = .ok (.putfield 16, 3) := by decide +kernel
theorem dX6_init_26 : decode cX6_init 26 = .ok (.aload_n 0, 1) := by decide +kernel
theorem dX6_init_27 : decode cX6_init 27 = .ok (.new 19, 3) := by decide +kernel
theorem dX6_init_30 : decode cX6_init 30 = .ok (.dup, 1) := by decide +kernel
theorem dX6_init_31 : decode cX6_init 31 = .ok (.invokespecial 21, 3) := by decide +kernel
theorem dX6_init_34 : decode cX6_init 34 = .ok (.putfield 22, 3) := by decide +kernel
theorem dX6_init_37 : decode cX6_init 37 = .ok (.aload_n 0, 1) := by decide +kernel
theorem dX6_init_38 : decode cX6_init 38 = .ok (.new 26, 3) := by decide +kernel
theorem dX6_init_41 : decode cX6_init 41 = .ok (.dup, 1) := by decide +kernel
theorem dX6_init_42 : decode cX6_init 42 = .ok (.aload_n 0, 1) := by decide +kernel
theorem dX6_init_43 : decode cX6_init 43 = .ok (.getfield 22, 3) := by decide +kernel
theorem dX6_init_46 : decode cX6_init 46 = .ok (.invokespecial 28, 3) := by decide +kernel
theorem dX6_init_49 : decode cX6_init 49 = .ok (.putfield 31, 3) := by decide +kernel
theorem dX6_init_52 : decode cX6_init 52 = .ok (.aload_n 0, 1) := by decide +kernel
theorem dX6_init_53 : decode cX6_init 53 = .ok (.new 35, 3) := by decide +kernel
theorem dX6_init_56 : decode cX6_init 56 = .ok (.dup, 1) := by decide +kernel
theorem dX6_init_57 : decode cX6_init 57 = .ok (.aload_n 0, 1) := by decide +kernel
theorem dX6_init_58 : decode cX6_init 58 = .ok (.getfield 22, 3) := by decide +kernel
theorem dX6_init_61 : decode cX6_init 61 = .ok (.invokespecial 37, 3) := by decide +kernel
theorem dX6_init_64 : decode cX6_init 64 = .ok (.putfield 38, 3) := by decide +kernel
theorem dX6_init_67 : decode cX6_init 67 = .ok (.aload_n 0, 1) := by decide +kernel
theorem dX6_init_68 : decode cX6_init 68 = .ok (.new 42, 3) := by decide +kernel
theorem dX6_init_71 : decode cX6_init 71 = .ok (.dup, 1) := by decide +kernel
theorem dX6_init_72 : decode cX6_init 72 = .ok (.invokespecial 44, 3) := by decide +kernel
theorem dX6_init_75 : decode cX6_init 75 = .ok (.putfield 45, 3) := by decide +kernel
theorem dX6_init_78 : decode cX6_init 78 = .ok (.aload_n 0, 1) := by decide +kernel
theorem dX6_init_79 : decode cX6_init 79 = .ok (.iconst 4, 1) := by decide +kernel
theorem dX6_init_80 : decode cX6_init 80 = .ok (.anewarray 49, 3) := by decide +kernel
theorem dX6_init_83 : decode cX6_init 83 = .ok (.dup, 1) := by decide +kernel
theorem dX6_init_84 : decode cX6_init 84 = .ok (.iconst 0, 1) := by decide +kernel
theorem dX6_init_85 : decode cX6_init 85 = .ok (.new 49, 3) := by decide +kernel
theorem dX6_init_88 : decode cX6_init 88 = .ok (.dup, 1) := by decide +kernel
theorem dX6_init_89 : decode cX6_init 89 = .ok (.invokespecial 51, 3) := by decide +kernel
theorem dX6_init_92 : decode cX6_init 92 = .ok (.aastore, 1) := by decide +kernel
theorem dX6_init_93 : decode cX6_init 93 = .ok (.dup, 1) := by decide +kernel
theorem dX6_init_94 : decode cX6_init 94 = .ok (.iconst 1, 1) := by decide +kernel
theorem dX6_init_95 : decode cX6_init 95 = .ok (.new 49, 3) := by decide +kernel
theorem dX6_init_98 : decode cX6_init 98 = .ok (.dup, 1) := by decide +kernel
theorem dX6_init_99 : decode cX6_init 99 = .ok (.invokespecial 51, 3) := by decide +kernel
theorem dX6_init_102 : decode cX6_init 102 = .ok (.aastore, 1) := by decide +kernel
theorem dX6_init_103 : decode cX6_init 103 = .ok (.dup, 1) := by decide +kernel
theorem dX6_init_104 : decode cX6_init 104 = .ok (.iconst 2, 1) := by decide +kernel
theorem dX6_init_105 : decode cX6_init 105 = .ok (.new 49, 3) := by decide +kernel
theorem dX6_init_108 : decode cX6_init 108 = .ok (.dup, 1) := by decide +kernel
theorem dX6_init_109 : decode cX6_init 109 = .ok (.invokespecial 51, 3) := by decide +kernel
theorem dX6_init_112 : decode cX6_init 112 = .ok (.aastore, 1) := by decide +kernel
theorem dX6_init_113 : decode cX6_init 113 = .ok (.dup, 1) := by decide +kernel
theorem dX6_init_114 : decode cX6_init 114 = .ok (.iconst 3, 1) := by decide +kernel
theorem dX6_init_115 : decode cX6_init 115 = .ok (.new 49, 3) := by decide +kernel
theorem dX6_init_118 : decode cX6_init 118 = .ok (.dup, 1) := by decide +kernel
theorem dX6_init_119 : decode cX6_init 119 = .ok (.invokespecial 51, 3) := by decide +kernel
theorem dX6_init_122 : decode cX6_init 122 = .ok (.aastore, 1) := by decide +kernel
theorem dX6_init_123 : decode cX6_init 123 = .ok (.putfield 52, 3) := by decide +kernel
theorem dX6_init_126 : decode cX6_init 126 = .ok (.iconst 0, 1) := by decide +kernel
theorem dX6_init_127 : decode cX6_init 127 = .ok (.istore_n 1, 1) := by decide +kernel
theorem dX6_init_128 : decode cX6_init 128 = .ok (.iload_n 1, 1) := by decide +kernel
theorem dX6_init_129 : decode cX6_init 129 = .ok (.ldc 56, 2) := by decide +kernel
theorem dX6_init_131 : decode cX6_init 131 = .ok (.invokevirtual 58, 3) := by decide +kernel
theorem dX6_init_134 : decode cX6_init 134 = .ok (.if_icmp .ge 23, 3) := by decide +kernel
theorem dX6_init_137 : decode cX6_init 137 = .ok (.aload_n 0, 1) := by decide +kernel
theorem dX6_init_138 : decode cX6_init 138 = .ok (.getfield 31, 3) := by decide +kernel
theorem dX6_init_141 : decode cX6_init 141 = .ok (.ldc 56, 2) := by decide +kernel
theorem dX6_init_143 : decode cX6_init 143 = .ok (.iload_n 1, 1) := by decide +kernel
theorem dX6_init_144 : decode cX6_init 144 = .ok (.invokevirtual 64, 3) := by decide +kernel
theorem dX6_init_147 : decode cX6_init 147 = .ok (.invokevirtual 68, 3) := by decide +kernel
theorem dX6_init_150 : decode cX6_init 150 = .ok (.pop, 1) := by decide +kernel
theorem dX6_init_151 : decode cX6_init 151 = .ok (.iinc 1 1, 3) := by decide +kernel
theorem dX6_init_154 : decode cX6_init 154 = .ok (.goto (-26), 3) := by decide +kernel
theorem dX6_init_157 : decode cX6_init 157 = .ok (.aload_n 0, 1) := by decide +kernel
theorem dX6_init_158 : decode cX6_init 158 = .ok (.getfield 31, 3) := by decide +kernel
theorem dX6_init_161 : decode cX6_init 161 = .ok (.invokevirtual 72, 3) := by decide +kernel
theorem dX6_init_164 : decode cX6_init 164 = .ok (.pop, 1) := by decide +kernel
theorem dX6_init_165 : decode cX6_init 165 = .ok (.aload_n 0, 1) := by decide +kernel
theorem dX6_init_166 : decode cX6_init 166 = .ok (.getfield 22, 3) := by decide +kernel
theorem dX6_init_169 : decode cX6_init 169 = .ok (.invokevirtual 75, 3) := by decide +kernel
theorem dX6_init_172 : decode cX6_init 172 = .ok (.pop, 1) := by decide +kernel
theorem dX6_init_173 : decode cX6_init 173 = .ok (.return_, 1) := by decide +kernel
theorem dX6_set_0 : decode cX6_set 0 = .ok (.iload_n 1, 1) := by decide +kernel
theorem dX6_set_1 : decode cX6_set 1 = .ok (.tableswitch 98 0 3 #[31, 37, 54, 76], 31) := by decide +kernel
theorem dX6_set_32 : decode cX6_set 32 = .ok (.aload_n 0, 1) := by decide +kernel
theorem dX6_set_33 : decode cX6_set 33 = .ok (.iload_n 3, 1) := by decide +kernel
theorem dX6_set_34 : decode cX6_set 34 = .ok (.invokevirtual 78, 3) := by decide +kernel
theorem dX6_set_37 : decode cX6_set 37 = .ok (.ireturn, 1) := by decide +kernel
theorem dX6_set_38 : decode cX6_set 38 = .ok (.aload_n 0, 1) := by decide +kernel
theorem dX6_set_39 : decode cX6_set 39 = .ok (.getfield 10, 3) := by decide +kernel
theorem dX6_set_42 : decode cX6_set 42 = .ok (.getfield 82, 3) := by decide +kernel
theorem dX6_set_45 : decode cX6_set 45 = .ok (.bipush 40, 2) := by decide +kernel
theorem dX6_set_47 : decode cX6_set 47 = .ok (.iload_n 2, 1) := by decide +kernel
theorem dX6_set_48 : decode cX6_set 48 = .ok (.iload_n 3, 1) := by decide +kernel
theorem dX6_set_49 : decode cX6_set 49 = .ok (.bipush 8, 2) := by decide +kernel
theorem dX6_set_51 : decode cX6_set 51 = .ok (.invokestatic 86, 3) := by decide +kernel
theorem dX6_set_54 : decode cX6_set 54 = .ok (.ireturn, 1) := by decide +kernel
theorem dX6_set_55 : decode cX6_set 55 = .ok (.aload_n 0, 1) := by decide +kernel
theorem dX6_set_56 : decode cX6_set 56 = .ok (.getfield 10, 3) := by decide +kernel
theorem dX6_set_59 : decode cX6_set 59 = .ok (.getfield 90, 3) := by decide +kernel
theorem dX6_set_62 : decode cX6_set 62 = .ok (.aload_n 0, 1) := by decide +kernel
theorem dX6_set_63 : decode cX6_set 63 = .ok (.getfield 10, 3) := by decide +kernel
theorem dX6_set_66 : decode cX6_set 66 = .ok (.getfield 93, 3) := by decide +kernel
theorem dX6_set_69 : decode cX6_set 69 = .ok (.iload_n 2, 1) := by decide +kernel
theorem dX6_set_70 : decode cX6_set 70 = .ok (.iload_n 3, 1) := by decide +kernel
theorem dX6_set_71 : decode cX6_set 71 = .ok (.bipush 10, 2) := by decide +kernel
theorem dX6_set_73 : decode cX6_set 73 = .ok (.invokestatic 86, 3) := by decide +kernel
theorem dX6_set_76 : decode cX6_set 76 = .ok (.ireturn, 1) := by decide +kernel
theorem dX6_set_77 : decode cX6_set 77 = .ok (.aload_n 0, 1) := by decide +kernel
theorem dX6_set_78 : decode cX6_set 78 = .ok (.getfield 10, 3) := by decide +kernel
theorem dX6_set_81 : decode cX6_set 81 = .ok (.getfield 97, 3) := by decide +kernel
theorem dX6_set_84 : decode cX6_set 84 = .ok (.aload_n 0, 1) := by decide +kernel
theorem dX6_set_85 : decode cX6_set 85 = .ok (.getfield 10, 3) := by decide +kernel
theorem dX6_set_88 : decode cX6_set 88 = .ok (.getfield 93, 3) := by decide +kernel
theorem dX6_set_91 : decode cX6_set 91 = .ok (.iload_n 2, 1) := by decide +kernel
theorem dX6_set_92 : decode cX6_set 92 = .ok (.iload_n 3, 1) := by decide +kernel
theorem dX6_set_93 : decode cX6_set 93 = .ok (.bipush 100, 2) := by decide +kernel
theorem dX6_set_95 : decode cX6_set 95 = .ok (.invokestatic 86, 3) := by decide +kernel
theorem dX6_set_98 : decode cX6_set 98 = .ok (.ireturn, 1) := by decide +kernel
theorem dX6_set_99 : decode cX6_set 99 = .ok (.bipush (-2), 2) := by decide +kernel
theorem dX6_set_101 : decode cX6_set 101 = .ok (.ireturn, 1) := by decide +kernel
theorem dX6_turnHour_0 : decode cX6_turnHour 0 = .ok (.iload_n 1, 1) := by decide +kernel
theorem dX6_turnHour_1 : decode cX6_turnHour 1 = .ok (.bipush 100, 2) := by decide +kernel
theorem dX6_turnHour_3 : decode cX6_turnHour 3 = .ok (.invokestatic 100, 3) := by decide +kernel
theorem dX6_turnHour_6 : decode cX6_turnHour 6 = .ok (.ifCond .ne 6, 3) := by decide +kernel
theorem dX6_turnHour_9 : decode cX6_turnHour 9 = .ok (.bipush (-2), 2) := by decide +kernel
theorem dX6_turnHour_11 : decode cX6_turnHour 11 = .ok (.ireturn, 1) := by decide +kernel
theorem dX6_turnHour_12 : decode cX6_turnHour 12 = .ok (.aload_n 0, 1) := by decide +kernel
theorem dX6_turnHour_13 : decode cX6_turnHour 13 = .ok (.getfield 10, 3) := by decide +kernel
theorem dX6_turnHour_16 : decode cX6_turnHour 16 = .ok (.getfield 104, 3) := by decide +kernel
theorem dX6_turnHour_19 : decode cX6_turnHour 19 = .ok (.istore_n 2, 1) := by decide +kernel
theorem dX6_turnHour_20 : decode cX6_turnHour 20 = .ok (.aload_n 0, 1) := by decide +kernel
theorem dX6_turnHour_21 : decode cX6_turnHour 21 = .ok (.getfield 10, 3) := by decide +kernel
theorem dX6_turnHour_24 : decode cX6_turnHour 24 = .ok (.iload_n 1, 1) := by decide +kernel
theorem dX6_turnHour_25 : decode cX6_turnHour 25 = .ok (.putfield 104, 3) := by decide +kernel
theorem dX6_turnHour_28 : decode cX6_turnHour 28 = .ok (.iload_n 2, 1) := by decide +kernel
theorem dX6_turnHour_29 : decode cX6_turnHour 29 = .ok (.ireturn, 1) := by decide +kernel
theorem dX6_change_0 : decode cX6_change 0 = .ok (.iload_n 2, 1) := by decide +kernel
theorem dX6_change_1 : decode cX6_change 1 = .ok (.iload_n 1, 1) := by decide +kernel
theorem dX6_change_2 : decode cX6_change 2 = .ok (.invokestatic 100, 3) := by decide +kernel
theorem dX6_change_5 : decode cX6_change 5 = .ok (.ifCond .eq 18, 3) := by decide +kernel
theorem dX6_change_8 : decode cX6_change 8 = .ok (.iload_n 2, 1) := by decide +kernel
theorem dX6_change_9 : decode cX6_change 9 = .ok (.aload_n 0, 1) := by decide +kernel
theorem dX6_change_10 : decode cX6_change 10 = .ok (.arraylength, 1) := by decide +kernel
theorem dX6_change_11 : decode cX6_change 11 = .ok (.if_icmp .ge 12, 3) := by decide +kernel
theorem dX6_change_14 : decode cX6_change 14 = .ok (.iload_n 3, 1) := by decide +kernel
theorem dX6_change_15 : decode cX6_change 15 = .ok (.iload 4, 2) := by decide +kernel
theorem dX6_change_17 : decode cX6_change 17 = .ok (.invokestatic 100, 3) := by decide +kernel
theorem dX6_change_20 : decode cX6_change 20 = .ok (.ifCond .ne 6, 3) := by decide +kernel
theorem dX6_change_23 : decode cX6_change 23 = .ok (.bipush (-2), 2) := by decide +kernel
theorem dX6_change_25 : decode cX6_change 25 = .ok (.ireturn, 1) := by decide +kernel
theorem dX6_change_26 : decode cX6_change 26 = .ok (.aload_n 0, 1) := by decide +kernel
theorem dX6_change_27 : decode cX6_change 27 = .ok (.iload_n 2, 1) := by decide +kernel
theorem dX6_change_28 : decode cX6_change 28 = .ok (.iaload, 1) := by decide +kernel
theorem dX6_change_29 : decode cX6_change 29 = .ok (.istore 5, 2) := by decide +kernel
theorem dX6_change_31 : decode cX6_change 31 = .ok (.aload_n 0, 1) := by decide +kernel
theorem dX6_change_32 : decode cX6_change 32 = .ok (.iload_n 2, 1) := by decide +kernel
theorem dX6_change_33 : decode cX6_change 33 = .ok (.iload_n 3, 1) := by decide +kernel
theorem dX6_change_34 : decode cX6_change 34 = .ok (.iastore, 1) := by decide +kernel
theorem dX6_change_35 : decode cX6_change 35 = .ok (.iload 5, 2) := by decide +kernel
theorem dX6_change_37 : decode cX6_change 37 = .ok (.ireturn, 1) := by decide +kernel
theorem dX6_pair_0 : decode cX6_pair 0 = .ok (.iload_n 1, 1) := by decide +kernel
theorem dX6_pair_1 : decode cX6_pair 1 = .ok (.bipush 6, 2) := by decide +kernel
theorem dX6_pair_3 : decode cX6_pair 3 = .ok (.invokestatic 100, 3) := by decide +kernel
theorem dX6_pair_6 : decode cX6_pair 6 = .ok (.ifCond .eq 21, 3) := by decide +kernel
theorem dX6_pair_9 : decode cX6_pair 9 = .ok (.iload_n 2, 1) := by decide +kernel
theorem dX6_pair_10 : decode cX6_pair 10 = .ok (.bipush 10, 2) := by decide +kernel
theorem dX6_pair_12 : decode cX6_pair 12 = .ok (.invokestatic 100, 3) := by decide +kernel
theorem dX6_pair_15 : decode cX6_pair 15 = .ok (.ifCond .eq 12, 3) := by decide +kernel
theorem dX6_pair_18 : decode cX6_pair 18 = .ok (.iload_n 3, 1) := by decide +kernel
theorem dX6_pair_19 : decode cX6_pair 19 = .ok (.bipush 100, 2) := by decide +kernel
theorem dX6_pair_21 : decode cX6_pair 21 = .ok (.invokestatic 100, 3) := by decide +kernel
theorem dX6_pair_24 : decode cX6_pair 24 = .ok (.ifCond .ne 6, 3) := by decide +kernel
theorem dX6_pair_27 : decode cX6_pair 27 = .ok (.bipush (-2), 2) := by decide +kernel
theorem dX6_pair_29 : decode cX6_pair 29 = .ok (.ireturn, 1) := by decide +kernel
theorem dX6_pair_30 : decode cX6_pair 30 = .ok (.aload_n 0, 1) := by decide +kernel
theorem dX6_pair_31 : decode cX6_pair 31 = .ok (.getfield 10, 3) := by decide +kernel
theorem dX6_pair_34 : decode cX6_pair 34 = .ok (.iload_n 1, 1) := by decide +kernel
theorem dX6_pair_35 : decode cX6_pair 35 = .ok (.iload_n 2, 1) := by decide +kernel
theorem dX6_pair_36 : decode cX6_pair 36 = .ok (.iload_n 3, 1) := by decide +kernel
theorem dX6_pair_37 : decode cX6_pair 37 = .ok (.invokevirtual 107, 3) := by decide +kernel
theorem dX6_pair_40 : decode cX6_pair 40 = .ok (.ireturn, 1) := by decide +kernel
theorem dX6_told_0 : decode cX6_told 0 = .ok (.iload_n 2, 1) := by decide +kernel
theorem dX6_told_1 : decode cX6_told 1 = .ok (.tableswitch 137 0 5 #[39, 47, 61, 80, 99, 118], 39) := by decide +kernel
theorem dX6_told_40 : decode cX6_told 40 = .ok (.aload_n 0, 1) := by decide +kernel
theorem dX6_told_41 : decode cX6_told 41 = .ok (.getfield 10, 3) := by decide +kernel
theorem dX6_told_44 : decode cX6_told 44 = .ok (.getfield 104, 3) := by decide +kernel
theorem dX6_told_47 : decode cX6_told 47 = .ok (.ireturn, 1) := by decide +kernel
theorem dX6_told_48 : decode cX6_told 48 = .ok (.aload_n 0, 1) := by decide +kernel
theorem dX6_told_49 : decode cX6_told 49 = .ok (.getfield 10, 3) := by decide +kernel
theorem dX6_told_52 : decode cX6_told 52 = .ok (.getfield 82, 3) := by decide +kernel
theorem dX6_told_55 : decode cX6_told 55 = .ok (.bipush 40, 2) := by decide +kernel
theorem dX6_told_57 : decode cX6_told 57 = .ok (.iload_n 1, 1) := by decide +kernel
theorem dX6_told_58 : decode cX6_told 58 = .ok (.invokestatic 111, 3) := by decide +kernel
theorem dX6_told_61 : decode cX6_told 61 = .ok (.ireturn, 1) := by decide +kernel
theorem dX6_told_62 : decode cX6_told 62 = .ok (.aload_n 0, 1) := by decide +kernel
theorem dX6_told_63 : decode cX6_told 63 = .ok (.getfield 10, 3) := by decide +kernel
theorem dX6_told_66 : decode cX6_told 66 = .ok (.getfield 90, 3) := by decide +kernel
theorem dX6_told_69 : decode cX6_told 69 = .ok (.aload_n 0, 1) := by decide +kernel
theorem dX6_told_70 : decode cX6_told 70 = .ok (.getfield 10, 3) := by decide +kernel
theorem dX6_told_73 : decode cX6_told 73 = .ok (.getfield 93, 3) := by decide +kernel
theorem dX6_told_76 : decode cX6_told 76 = .ok (.iload_n 1, 1) := by decide +kernel
theorem dX6_told_77 : decode cX6_told 77 = .ok (.invokestatic 111, 3) := by decide +kernel
theorem dX6_told_80 : decode cX6_told 80 = .ok (.ireturn, 1) := by decide +kernel
theorem dX6_told_81 : decode cX6_told 81 = .ok (.aload_n 0, 1) := by decide +kernel
theorem dX6_told_82 : decode cX6_told 82 = .ok (.getfield 10, 3) := by decide +kernel
theorem dX6_told_85 : decode cX6_told 85 = .ok (.getfield 97, 3) := by decide +kernel
theorem dX6_told_88 : decode cX6_told 88 = .ok (.aload_n 0, 1) := by decide +kernel
theorem dX6_told_89 : decode cX6_told 89 = .ok (.getfield 10, 3) := by decide +kernel
theorem dX6_told_92 : decode cX6_told 92 = .ok (.getfield 93, 3) := by decide +kernel
theorem dX6_told_95 : decode cX6_told 95 = .ok (.iload_n 1, 1) := by decide +kernel
theorem dX6_told_96 : decode cX6_told 96 = .ok (.invokestatic 111, 3) := by decide +kernel
theorem dX6_told_99 : decode cX6_told 99 = .ok (.ireturn, 1) := by decide +kernel
theorem dX6_told_100 : decode cX6_told 100 = .ok (.aload_n 0, 1) := by decide +kernel
theorem dX6_told_101 : decode cX6_told 101 = .ok (.getfield 10, 3) := by decide +kernel
theorem dX6_told_104 : decode cX6_told 104 = .ok (.getfield 115, 3) := by decide +kernel
theorem dX6_told_107 : decode cX6_told 107 = .ok (.aload_n 0, 1) := by decide +kernel
theorem dX6_told_108 : decode cX6_told 108 = .ok (.getfield 10, 3) := by decide +kernel
theorem dX6_told_111 : decode cX6_told 111 = .ok (.getfield 93, 3) := by decide +kernel
theorem dX6_told_114 : decode cX6_told 114 = .ok (.iload_n 1, 1) := by decide +kernel
theorem dX6_told_115 : decode cX6_told 115 = .ok (.invokestatic 111, 3) := by decide +kernel
theorem dX6_told_118 : decode cX6_told 118 = .ok (.ireturn, 1) := by decide +kernel
theorem dX6_told_119 : decode cX6_told 119 = .ok (.aload_n 0, 1) := by decide +kernel
theorem dX6_told_120 : decode cX6_told 120 = .ok (.getfield 10, 3) := by decide +kernel
theorem dX6_told_123 : decode cX6_told 123 = .ok (.getfield 118, 3) := by decide +kernel
theorem dX6_told_126 : decode cX6_told 126 = .ok (.aload_n 0, 1) := by decide +kernel
theorem dX6_told_127 : decode cX6_told 127 = .ok (.getfield 10, 3) := by decide +kernel
theorem dX6_told_130 : decode cX6_told 130 = .ok (.getfield 93, 3) := by decide +kernel
theorem dX6_told_133 : decode cX6_told 133 = .ok (.iload_n 1, 1) := by decide +kernel
theorem dX6_told_134 : decode cX6_told 134 = .ok (.invokestatic 111, 3) := by decide +kernel
theorem dX6_told_137 : decode cX6_told 137 = .ok (.ireturn, 1) := by decide +kernel
theorem dX6_told_138 : decode cX6_told 138 = .ok (.aload_n 0, 1) := by decide +kernel
theorem dX6_told_139 : decode cX6_told 139 = .ok (.iload_n 1, 1) := by decide +kernel
theorem dX6_told_140 : decode cX6_told 140 = .ok (.iload_n 2, 1) := by decide +kernel
theorem dX6_told_141 : decode cX6_told 141 = .ok (.invokevirtual 121, 3) := by decide +kernel
theorem dX6_told_144 : decode cX6_told 144 = .ok (.ireturn, 1) := by decide +kernel
theorem dX6_item_0 : decode cX6_item 0 = .ok (.iload_n 2, 1) := by decide +kernel
theorem dX6_item_1 : decode cX6_item 1 = .ok (.iload_n 1, 1) := by decide +kernel
theorem dX6_item_2 : decode cX6_item 2 = .ok (.invokestatic 100, 3) := by decide +kernel
theorem dX6_item_5 : decode cX6_item 5 = .ok (.ifCond .eq 15, 3) := by decide +kernel
theorem dX6_item_8 : decode cX6_item 8 = .ok (.iload_n 2, 1) := by decide +kernel
theorem dX6_item_9 : decode cX6_item 9 = .ok (.aload_n 0, 1) := by decide +kernel
theorem dX6_item_10 : decode cX6_item 10 = .ok (.arraylength, 1) := by decide +kernel
theorem dX6_item_11 : decode cX6_item 11 = .ok (.if_icmp .ge 9, 3) := by decide +kernel
theorem dX6_item_14 : decode cX6_item 14 = .ok (.aload_n 0, 1) := by decide +kernel
theorem dX6_item_15 : decode cX6_item 15 = .ok (.iload_n 2, 1) := by decide +kernel
theorem dX6_item_16 : decode cX6_item 16 = .ok (.iaload, 1) := by decide +kernel
theorem dX6_item_17 : decode cX6_item 17 = .ok (.goto 6, 3) := by decide +kernel
theorem dX6_item_20 : decode cX6_item 20 = .ok (.sipush (-1000), 3) := by decide +kernel
theorem dX6_item_23 : decode cX6_item 23 = .ok (.ireturn, 1) := by decide +kernel
theorem dX6_felt_0 : decode cX6_felt 0 = .ok (.aload_n 0, 1) := by decide +kernel
theorem dX6_felt_1 : decode cX6_felt 1 = .ok (.getfield 10, 3) := by decide +kernel
theorem dX6_felt_4 : decode cX6_felt 4 = .ok (.iload_n 1, 1) := by decide +kernel
theorem dX6_felt_5 : decode cX6_felt 5 = .ok (.invokevirtual 125, 3) := by decide +kernel
theorem dX6_felt_8 : decode cX6_felt 8 = .ok (.ifCond .ne 7, 3) := by decide +kernel
theorem dX6_felt_11 : decode cX6_felt 11 = .ok (.sipush (-1000), 3) := by decide +kernel
theorem dX6_felt_14 : decode cX6_felt 14 = .ok (.ireturn, 1) := by decide +kernel
theorem dX6_felt_15 : decode cX6_felt 15 = .ok (.aload_n 0, 1) := by decide +kernel
theorem dX6_felt_16 : decode cX6_felt 16 = .ok (.getfield 38, 3) := by decide +kernel
theorem dX6_felt_19 : decode cX6_felt 19 = .ok (.aload_n 0, 1) := by decide +kernel
theorem dX6_felt_20 : decode cX6_felt 20 = .ok (.getfield 10, 3) := by decide +kernel
theorem dX6_felt_23 : decode cX6_felt 23 = .ok (.iload_n 1, 1) := by decide +kernel
theorem dX6_felt_24 : decode cX6_felt 24 = .ok (.invokevirtual 128, 3) := by decide +kernel
theorem dX6_felt_27 : decode cX6_felt 27 = .ok (.aload_n 0, 1) := by decide +kernel
theorem dX6_felt_28 : decode cX6_felt 28 = .ok (.getfield 10, 3) := by decide +kernel
theorem dX6_felt_31 : decode cX6_felt 31 = .ok (.iload_n 1, 1) := by decide +kernel
theorem dX6_felt_32 : decode cX6_felt 32 = .ok (.invokevirtual 132, 3) := by decide +kernel
theorem dX6_felt_35 : decode cX6_felt 35 = .ok (.istore_n 3, 1) := by decide +kernel
theorem dX6_felt_36 : decode cX6_felt 36 = .ok (.iload_n 2, 1) := by decide +kernel
theorem dX6_felt_37 : decode cX6_felt 37 = .ok (.bipush 6, 2) := by decide +kernel
theorem dX6_felt_39 : decode cX6_felt 39 = .ok (.if_icmp .ne 12, 3) := by decide +kernel
theorem dX6_felt_42 : decode cX6_felt 42 = .ok (.aload_n 0, 1) := by decide +kernel
theorem dX6_felt_43 : decode cX6_felt 43 = .ok (.getfield 38, 3) := by decide +kernel
theorem dX6_felt_46 : decode cX6_felt 46 = .ok (.iload_n 3, 1) := by decide +kernel
theorem dX6_felt_47 : decode cX6_felt 47 = .ok (.invokevirtual 135, 3) := by decide +kernel
theorem dX6_felt_50 : decode cX6_felt 50 = .ok (.ireturn, 1) := by decide +kernel
theorem dX6_felt_51 : decode cX6_felt 51 = .ok (.iload_n 2, 1) := by decide +kernel
theorem dX6_felt_52 : decode cX6_felt 52 = .ok (.bipush 7, 2) := by decide +kernel
theorem dX6_felt_54 : decode cX6_felt 54 = .ok (.if_icmp .ne 12, 3) := by decide +kernel
theorem dX6_felt_57 : decode cX6_felt 57 = .ok (.aload_n 0, 1) := by decide +kernel
theorem dX6_felt_58 : decode cX6_felt 58 = .ok (.getfield 38, 3) := by decide +kernel
theorem dX6_felt_61 : decode cX6_felt 61 = .ok (.iload_n 3, 1) := by decide +kernel
theorem dX6_felt_62 : decode cX6_felt 62 = .ok (.invokevirtual 138, 3) := by decide +kernel
theorem dX6_felt_65 : decode cX6_felt 65 = .ok (.ireturn, 1) := by decide +kernel
theorem dX6_felt_66 : decode cX6_felt 66 = .ok (.iload_n 2, 1) := by decide +kernel
theorem dX6_felt_67 : decode cX6_felt 67 = .ok (.bipush 10, 2) := by decide +kernel
theorem dX6_felt_69 : decode cX6_felt 69 = .ok (.if_icmp .lt 24, 3) := by decide +kernel
theorem dX6_felt_72 : decode cX6_felt 72 = .ok (.iload_n 2, 1) := by decide +kernel
theorem dX6_felt_73 : decode cX6_felt 73 = .ok (.bipush 16, 2) := by decide +kernel
theorem dX6_felt_75 : decode cX6_felt 75 = .ok (.if_icmp .ge 18, 3) := by decide +kernel
theorem dX6_felt_78 : decode cX6_felt 78 = .ok (.aload_n 0, 1) := by decide +kernel
theorem dX6_felt_79 : decode cX6_felt 79 = .ok (.getfield 38, 3) := by decide +kernel
theorem dX6_felt_82 : decode cX6_felt 82 = .ok (.iload_n 3, 1) := by decide +kernel
theorem dX6_felt_83 : decode cX6_felt 83 = .ok (.iload_n 2, 1) := by decide +kernel
theorem dX6_felt_84 : decode cX6_felt 84 = .ok (.bipush 10, 2) := by decide +kernel
theorem dX6_felt_86 : decode cX6_felt 86 = .ok (.isub, 1) := by decide +kernel
theorem dX6_felt_87 : decode cX6_felt 87 = .ok (.invokevirtual 141, 3) := by decide +kernel
theorem dX6_felt_90 : decode cX6_felt 90 = .ok (.goto 6, 3) := by decide +kernel
theorem dX6_felt_93 : decode cX6_felt 93 = .ok (.sipush (-1000), 3) := by decide +kernel
theorem dX6_felt_96 : decode cX6_felt 96 = .ok (.ireturn, 1) := by decide +kernel
theorem dX6_feed_0 : decode cX6_feed 0 = .ok (.iload_n 1, 1) := by decide +kernel
theorem dX6_feed_1 : decode cX6_feed 1 = .ok (.sipush 256, 3) := by decide +kernel
theorem dX6_feed_4 : decode cX6_feed 4 = .ok (.invokestatic 100, 3) := by decide +kernel
theorem dX6_feed_7 : decode cX6_feed 7 = .ok (.ifCond .ne 6, 3) := by decide +kernel
theorem dX6_feed_10 : decode cX6_feed 10 = .ok (.bipush (-2), 2) := by decide +kernel
theorem dX6_feed_12 : decode cX6_feed 12 = .ok (.ireturn, 1) := by decide +kernel
theorem dX6_feed_13 : decode cX6_feed 13 = .ok (.aload_n 0, 1) := by decide +kernel
theorem dX6_feed_14 : decode cX6_feed 14 = .ok (.getfield 31, 3) := by decide +kernel
theorem dX6_feed_17 : decode cX6_feed 17 = .ok (.iload_n 1, 1) := by decide +kernel
theorem dX6_feed_18 : decode cX6_feed 18 = .ok (.invokevirtual 68, 3) := by decide +kernel
theorem dX6_feed_21 : decode cX6_feed 21 = .ok (.ifCond .eq 13, 3) := by decide +kernel
theorem dX6_feed_24 : decode cX6_feed 24 = .ok (.aload_n 0, 1) := by decide +kernel
theorem dX6_feed_25 : decode cX6_feed 25 = .ok (.getfield 31, 3) := by decide +kernel
theorem dX6_feed_28 : decode cX6_feed 28 = .ok (.getfield 144, 3) := by decide +kernel
theorem dX6_feed_31 : decode cX6_feed 31 = .ok (.goto 5, 3) := by decide +kernel
theorem dX6_feed_34 : decode cX6_feed 34 = .ok (.bipush (-4), 2) := by decide +kernel
theorem dX6_feed_36 : decode cX6_feed 36 = .ok (.ireturn, 1) := by decide +kernel
theorem dX6_text_0 : decode cX6_text 0 = .ok (.aload_n 0, 1) := by decide +kernel
theorem dX6_text_1 : decode cX6_text 1 = .ok (.getfield 22, 3) := by decide +kernel
theorem dX6_text_4 : decode cX6_text 4 = .ok (.getfield 145, 3) := by decide +kernel
theorem dX6_text_7 : decode cX6_text 7 = .ok (.bipush 6, 2) := by decide +kernel
theorem dX6_text_9 : decode cX6_text 9 = .ok (.if_icmp .lt 6, 3) := by decide +kernel
theorem dX6_text_12 : decode cX6_text 12 = .ok (.bipush (-4), 2) := by decide +kernel
theorem dX6_text_14 : decode cX6_text 14 = .ok (.ireturn, 1) := by decide +kernel
theorem dX6_text_15 : decode cX6_text 15 = .ok (.aload_n 0, 1) := by decide +kernel
theorem dX6_text_16 : decode cX6_text 16 = .ok (.getfield 31, 3) := by decide +kernel
theorem dX6_text_19 : decode cX6_text 19 = .ok (.invokevirtual 72, 3) := by decide +kernel
theorem dX6_text_22 : decode cX6_text 22 = .ok (.istore_n 1, 1) := by decide +kernel
theorem dX6_text_23 : decode cX6_text 23 = .ok (.iload_n 1, 1) := by decide +kernel
theorem dX6_text_24 : decode cX6_text 24 = .ok (.iconst (-1), 1) := by decide +kernel
theorem dX6_text_25 : decode cX6_text 25 = .ok (.if_icmp .ne 13, 3) := by decide +kernel
theorem dX6_text_28 : decode cX6_text 28 = .ok (.aload_n 0, 1) := by decide +kernel
theorem dX6_text_29 : decode cX6_text 29 = .ok (.getfield 22, 3) := by decide +kernel
theorem dX6_text_32 : decode cX6_text 32 = .ok (.invokevirtual 75, 3) := by decide +kernel
theorem dX6_text_35 : decode cX6_text 35 = .ok (.goto 7, 3) := by decide +kernel
theorem dX6_text_38 : decode cX6_text 38 = .ok (.bipush (-100), 2) := by decide +kernel
theorem dX6_text_40 : decode cX6_text 40 = .ok (.iload_n 1, 1) := by decide +kernel
theorem dX6_text_41 : decode cX6_text 41 = .ok (.isub, 1) := by decide +kernel
theorem dX6_text_42 : decode cX6_text 42 = .ok (.ireturn, 1) := by decide +kernel
theorem dX6_force_0 : decode cX6_force 0 = .ok (.iload_n 1, 1) := by decide +kernel
theorem dX6_force_1 : decode cX6_force 1 = .ok (.aload_n 0, 1) := by decide +kernel
theorem dX6_force_2 : decode cX6_force 2 = .ok (.getfield 22, 3) := by decide +kernel
theorem dX6_force_5 : decode cX6_force 5 = .ok (.getfield 145, 3) := by decide +kernel
theorem dX6_force_8 : decode cX6_force 8 = .ok (.invokestatic 100, 3) := by decide +kernel
theorem dX6_force_11 : decode cX6_force 11 = .ok (.ifCond .ne 6, 3) := by decide +kernel
theorem dX6_force_14 : decode cX6_force 14 = .ok (.bipush (-2), 2) := by decide +kernel
theorem dX6_force_16 : decode cX6_force 16 = .ok (.ireturn, 1) := by decide +kernel
theorem dX6_force_17 : decode cX6_force 17 = .ok (.aload_n 0, 1) := by decide +kernel
theorem dX6_force_18 : decode cX6_force 18 = .ok (.getfield 10, 3) := by decide +kernel
theorem dX6_force_21 : decode cX6_force 21 = .ok (.getfield 146, 3) := by decide +kernel
theorem dX6_force_24 : decode cX6_force 24 = .ok (.istore_n 2, 1) := by decide +kernel
theorem dX6_force_25 : decode cX6_force 25 = .ok (.aload_n 0, 1) := by decide +kernel
theorem dX6_force_26 : decode cX6_force 26 = .ok (.getfield 10, 3) := by decide +kernel
theorem dX6_force_29 : decode cX6_force 29 = .ok (.iload_n 1, 1) := by decide +kernel
theorem dX6_force_30 : decode cX6_force 30 = .ok (.putfield 146, 3) := by decide +kernel
theorem dX6_force_33 : decode cX6_force 33 = .ok (.iload_n 2, 1) := by decide +kernel
theorem dX6_force_34 : decode cX6_force 34 = .ok (.ireturn, 1) := by decide +kernel
theorem dX6_say_0 : decode cX6_say 0 = .ok (.aload_n 0, 1) := by decide +kernel
theorem dX6_say_1 : decode cX6_say 1 = .ok (.getfield 10, 3) := by decide +kernel
theorem dX6_say_4 : decode cX6_say 4 = .ok (.iload_n 1, 1) := by decide +kernel
theorem dX6_say_5 : decode cX6_say 5 = .ok (.invokevirtual 125, 3) := by decide +kernel
theorem dX6_say_8 : decode cX6_say 8 = .ok (.ifCond .eq 12, 3) := by decide +kernel
theorem dX6_say_11 : decode cX6_say 11 = .ok (.iload_n 2, 1) := by decide +kernel
theorem dX6_say_12 : decode cX6_say 12 = .ok (.bipush 6, 2) := by decide +kernel
theorem dX6_say_14 : decode cX6_say 14 = .ok (.invokestatic 100, 3) := by decide +kernel
theorem dX6_say_17 : decode cX6_say 17 = .ok (.ifCond .ne 6, 3) := by decide +kernel
theorem dX6_say_20 : decode cX6_say 20 = .ok (.bipush (-2), 2) := by decide +kernel
theorem dX6_say_22 : decode cX6_say 22 = .ok (.ireturn, 1) := by decide +kernel
theorem dX6_say_23 : decode cX6_say 23 = .ok (.aload_n 0, 1) := by decide +kernel
theorem dX6_say_24 : decode cX6_say 24 = .ok (.getfield 38, 3) := by decide +kernel
theorem dX6_say_27 : decode cX6_say 27 = .ok (.aload_n 0, 1) := by decide +kernel
theorem dX6_say_28 : decode cX6_say 28 = .ok (.getfield 10, 3) := by decide +kernel
theorem dX6_say_31 : decode cX6_say 31 = .ok (.iload_n 1, 1) := by decide +kernel
theorem dX6_say_32 : decode cX6_say 32 = .ok (.invokevirtual 128, 3) := by decide +kernel
theorem dX6_say_35 : decode cX6_say 35 = .ok (.aload_n 0, 1) := by decide +kernel
theorem dX6_say_36 : decode cX6_say 36 = .ok (.getfield 38, 3) := by decide +kernel
theorem dX6_say_39 : decode cX6_say 39 = .ok (.aload_n 0, 1) := by decide +kernel
theorem dX6_say_40 : decode cX6_say 40 = .ok (.getfield 10, 3) := by decide +kernel
theorem dX6_say_43 : decode cX6_say 43 = .ok (.iload_n 1, 1) := by decide +kernel
theorem dX6_say_44 : decode cX6_say 44 = .ok (.invokevirtual 132, 3) := by decide +kernel
theorem dX6_say_47 : decode cX6_say 47 = .ok (.iload_n 2, 1) := by decide +kernel
theorem dX6_say_48 : decode cX6_say 48 = .ok (.invokevirtual 149, 3) := by decide +kernel
theorem dX6_say_51 : decode cX6_say 51 = .ok (.istore_n 3, 1) := by decide +kernel
theorem dX6_say_52 : decode cX6_say 52 = .ok (.aload_n 0, 1) := by decide +kernel
theorem dX6_say_53 : decode cX6_say 53 = .ok (.getfield 10, 3) := by decide +kernel
theorem dX6_say_56 : decode cX6_say 56 = .ok (.iload_n 1, 1) := by decide +kernel
theorem dX6_say_57 : decode cX6_say 57 = .ok (.iload_n 3, 1) := by decide +kernel
theorem dX6_say_58 : decode cX6_say 58 = .ok (.invokevirtual 152, 3) := by decide +kernel
theorem dX6_say_61 : decode cX6_say 61 = .ok (.iload_n 3, 1) := by decide +kernel
theorem dX6_say_62 : decode cX6_say 62 = .ok (.ireturn, 1) := by decide +kernel
theorem dX6_quiet_0 : decode cX6_quiet 0 = .ok (.iload_n 1, 1) := by decide +kernel
theorem dX6_quiet_1 : decode cX6_quiet 1 = .ok (.bipush 100, 2) := by decide +kernel
theorem dX6_quiet_3 : decode cX6_quiet 3 = .ok (.invokestatic 100, 3) := by decide +kernel
theorem dX6_quiet_6 : decode cX6_quiet 6 = .ok (.ifCond .ne 6, 3) := by decide +kernel
theorem dX6_quiet_9 : decode cX6_quiet 9 = .ok (.bipush (-2), 2) := by decide +kernel
theorem dX6_quiet_11 : decode cX6_quiet 11 = .ok (.ireturn, 1) := by decide +kernel
theorem dX6_quiet_12 : decode cX6_quiet 12 = .ok (.iconst 0, 1) := by decide +kernel
theorem dX6_quiet_13 : decode cX6_quiet 13 = .ok (.istore_n 2, 1) := by decide +kernel
theorem dX6_quiet_14 : decode cX6_quiet 14 = .ok (.iconst 0, 1) := by decide +kernel
theorem dX6_quiet_15 : decode cX6_quiet 15 = .ok (.istore_n 3, 1) := by decide +kernel
theorem dX6_quiet_16 : decode cX6_quiet 16 = .ok (.iload_n 3, 1) := by decide +kernel
theorem dX6_quiet_17 : decode cX6_quiet 17 = .ok (.aload_n 0, 1) := by decide +kernel
theorem dX6_quiet_18 : decode cX6_quiet 18 = .ok (.getfield 10, 3) := by decide +kernel
theorem dX6_quiet_21 : decode cX6_quiet 21 = .ok (.getfield 93, 3) := by decide +kernel
theorem dX6_quiet_24 : decode cX6_quiet 24 = .ok (.if_icmp .ge 64, 3) := by decide +kernel
theorem dX6_quiet_27 : decode cX6_quiet 27 = .ok (.iload_n 3, 1) := by decide +kernel
theorem dX6_quiet_28 : decode cX6_quiet 28 = .ok (.iconst 5, 1) := by decide +kernel
theorem dX6_quiet_29 : decode cX6_quiet 29 = .ok (.if_icmp .ge 59, 3) := by decide +kernel
theorem dX6_quiet_32 : decode cX6_quiet 32 = .ok (.aload_n 0, 1) := by decide +kernel
theorem dX6_quiet_33 : decode cX6_quiet 33 = .ok (.getfield 38, 3) := by decide +kernel
theorem dX6_quiet_36 : decode cX6_quiet 36 = .ok (.aload_n 0, 1) := by decide +kernel
theorem dX6_quiet_37 : decode cX6_quiet 37 = .ok (.getfield 10, 3) := by decide +kernel
theorem dX6_quiet_40 : decode cX6_quiet 40 = .ok (.iload_n 3, 1) := by decide +kernel
theorem dX6_quiet_41 : decode cX6_quiet 41 = .ok (.invokevirtual 128, 3) := by decide +kernel
theorem dX6_quiet_44 : decode cX6_quiet 44 = .ok (.aload_n 0, 1) := by decide +kernel
theorem dX6_quiet_45 : decode cX6_quiet 45 = .ok (.getfield 10, 3) := by decide +kernel
theorem dX6_quiet_48 : decode cX6_quiet 48 = .ok (.getfield 97, 3) := by decide +kernel
theorem dX6_quiet_51 : decode cX6_quiet 51 = .ok (.iload_n 3, 1) := by decide +kernel
theorem dX6_quiet_52 : decode cX6_quiet 52 = .ok (.aload_n 0, 1) := by decide +kernel
theorem dX6_quiet_53 : decode cX6_quiet 53 = .ok (.aload_n 0, 1) := by decide +kernel
theorem dX6_quiet_54 : decode cX6_quiet 54 = .ok (.getfield 10, 3) := by decide +kernel
theorem dX6_quiet_57 : decode cX6_quiet 57 = .ok (.getfield 97, 3) := by decide +kernel
theorem dX6_quiet_60 : decode cX6_quiet 60 = .ok (.iload_n 3, 1) := by decide +kernel
theorem dX6_quiet_61 : decode cX6_quiet 61 = .ok (.iaload, 1) := by decide +kernel
theorem dX6_quiet_62 : decode cX6_quiet 62 = .ok (.iload_n 1, 1) := by decide +kernel
theorem dX6_quiet_63 : decode cX6_quiet 63 = .ok (.invokevirtual 156, 3) := by decide +kernel
theorem dX6_quiet_66 : decode cX6_quiet 66 = .ok (.iastore, 1) := by decide +kernel
theorem dX6_quiet_67 : decode cX6_quiet 67 = .ok (.aload_n 0, 1) := by decide +kernel
theorem dX6_quiet_68 : decode cX6_quiet 68 = .ok (.getfield 10, 3) := by decide +kernel
theorem dX6_quiet_71 : decode cX6_quiet 71 = .ok (.getfield 97, 3) := by decide +kernel
theorem dX6_quiet_74 : decode cX6_quiet 74 = .ok (.iload_n 3, 1) := by decide +kernel
theorem dX6_quiet_75 : decode cX6_quiet 75 = .ok (.iaload, 1) := by decide +kernel
theorem dX6_quiet_76 : decode cX6_quiet 76 = .ok (.ifCond .ne 6, 3) := by decide +kernel
theorem dX6_quiet_79 : decode cX6_quiet 79 = .ok (.iinc 2 1, 3) := by decide +kernel
theorem dX6_quiet_82 : decode cX6_quiet 82 = .ok (.iinc 3 1, 3) := by decide +kernel
theorem dX6_quiet_85 : decode cX6_quiet 85 = .ok (.goto (-69), 3) := by decide +kernel
theorem dX6_quiet_88 : decode cX6_quiet 88 = .ok (.iload_n 2, 1) := by decide +kernel
theorem dX6_quiet_89 : decode cX6_quiet 89 = .ok (.ireturn, 1) := by decide +kernel
theorem dX6_cooledFor_0 : decode cX6_cooledFor 0 = .ok (.iload_n 1, 1) := by decide +kernel
theorem dX6_cooledFor_1 : decode cX6_cooledFor 1 = .ok (.istore_n 3, 1) := by decide +kernel
theorem dX6_cooledFor_2 : decode cX6_cooledFor 2 = .ok (.iconst 0, 1) := by decide +kernel
theorem dX6_cooledFor_3 : decode cX6_cooledFor 3 = .ok (.istore 4, 2) := by decide +kernel
theorem dX6_cooledFor_5 : decode cX6_cooledFor 5 = .ok (.iload 4, 2) := by decide +kernel
theorem dX6_cooledFor_7 : decode cX6_cooledFor 7 = .ok (.iload_n 2, 1) := by decide +kernel
theorem dX6_cooledFor_8 : decode cX6_cooledFor 8 = .ok (.if_icmp .ge 18, 3) := by decide +kernel
theorem dX6_cooledFor_11 : decode cX6_cooledFor 11 = .ok (.aload_n 0, 1) := by decide +kernel
theorem dX6_cooledFor_12 : decode cX6_cooledFor 12 = .ok (.getfield 38, 3) := by decide +kernel
theorem dX6_cooledFor_15 : decode cX6_cooledFor 15 = .ok (.iload_n 3, 1) := by decide +kernel
theorem dX6_cooledFor_16 : decode cX6_cooledFor 16 = .ok (.invokevirtual 159, 3) := by decide +kernel
theorem dX6_cooledFor_19 : decode cX6_cooledFor 19 = .ok (.istore_n 3, 1) := by decide +kernel
theorem dX6_cooledFor_20 : decode cX6_cooledFor 20 = .ok (.iinc 4 1, 3) := by decide +kernel
theorem dX6_cooledFor_23 : decode cX6_cooledFor 23 = .ok (.goto (-18), 3) := by decide +kernel
theorem dX6_cooledFor_26 : decode cX6_cooledFor 26 = .ok (.iload_n 3, 1) := by decide +kernel
theorem dX6_cooledFor_27 : decode cX6_cooledFor 27 = .ok (.ireturn, 1) := by decide +kernel
theorem dX6_view_0 : decode cX6_view 0 = .ok (.iload_n 1, 1) := by decide +kernel
theorem dX6_view_1 : decode cX6_view 1 = .ok (.tableswitch 102 0 4 #[35, 40, 59, 71, 76], 35) := by decide +kernel
theorem dX6_view_36 : decode cX6_view 36 = .ok (.aload_n 0, 1) := by decide +kernel
theorem dX6_view_37 : decode cX6_view 37 = .ok (.invokevirtual 162, 3) := by decide +kernel
theorem dX6_view_40 : decode cX6_view 40 = .ok (.ireturn, 1) := by decide +kernel
theorem dX6_view_41 : decode cX6_view 41 = .ok (.aload_n 0, 1) := by decide +kernel
theorem dX6_view_42 : decode cX6_view 42 = .ok (.invokevirtual 162, 3) := by decide +kernel
theorem dX6_view_45 : decode cX6_view 45 = .ok (.invokestatic 165, 3) := by decide +kernel
theorem dX6_view_48 : decode cX6_view 48 = .ok (.aload_n 0, 1) := by decide +kernel
theorem dX6_view_49 : decode cX6_view 49 = .ok (.getfield 10, 3) := by decide +kernel
theorem dX6_view_52 : decode cX6_view 52 = .ok (.invokevirtual 169, 3) := by decide +kernel
theorem dX6_view_55 : decode cX6_view 55 = .ok (.land, 1) := by decide +kernel
theorem dX6_view_56 : decode cX6_view 56 = .ok (.invokestatic 173, 3) := by decide +kernel
theorem dX6_view_59 : decode cX6_view 59 = .ok (.ireturn, 1) := by decide +kernel
theorem dX6_view_60 : decode cX6_view 60 = .ok (.aload_n 0, 1) := by decide +kernel
theorem dX6_view_61 : decode cX6_view 61 = .ok (.getfield 10, 3) := by decide +kernel
theorem dX6_view_64 : decode cX6_view 64 = .ok (.aload_n 0, 1) := by decide +kernel
theorem dX6_view_65 : decode cX6_view 65 = .ok (.invokevirtual 162, 3) := by decide +kernel
theorem dX6_view_68 : decode cX6_view 68 = .ok (.invokevirtual 179, 3) := by decide +kernel
theorem dX6_view_71 : decode cX6_view 71 = .ok (.ireturn, 1) := by decide +kernel
theorem dX6_view_72 : decode cX6_view 72 = .ok (.aload_n 0, 1) := by decide +kernel
theorem dX6_view_73 : decode cX6_view 73 = .ok (.invokevirtual 182, 3) := by decide +kernel
theorem dX6_view_76 : decode cX6_view 76 = .ok (.ireturn, 1) := by decide +kernel
theorem dX6_view_77 : decode cX6_view 77 = .ok (.aload_n 0, 1) := by decide +kernel
theorem dX6_view_78 : decode cX6_view 78 = .ok (.getfield 10, 3) := by decide +kernel
theorem dX6_view_81 : decode cX6_view 81 = .ok (.bipush 40, 2) := by decide +kernel
theorem dX6_view_83 : decode cX6_view 83 = .ok (.invokevirtual 185, 3) := by decide +kernel
theorem dX6_view_86 : decode cX6_view 86 = .ok (.istore_n 2, 1) := by decide +kernel
theorem dX6_view_87 : decode cX6_view 87 = .ok (.iload_n 2, 1) := by decide +kernel
theorem dX6_view_88 : decode cX6_view 88 = .ok (.iconst (-1), 1) := by decide +kernel
theorem dX6_view_89 : decode cX6_view 89 = .ok (.if_icmp .ne 7, 3) := by decide +kernel
theorem dX6_view_92 : decode cX6_view 92 = .ok (.iconst 0, 1) := by decide +kernel
theorem dX6_view_93 : decode cX6_view 93 = .ok (.goto 9, 3) := by decide +kernel
theorem dX6_view_96 : decode cX6_view 96 = .ok (.aload_n 0, 1) := by decide +kernel
theorem dX6_view_97 : decode cX6_view 97 = .ok (.iload_n 2, 1) := by decide +kernel
theorem dX6_view_98 : decode cX6_view 98 = .ok (.iconst 1, 1) := by decide +kernel
theorem dX6_view_99 : decode cX6_view 99 = .ok (.invokevirtual 188, 3) := by decide +kernel
theorem dX6_view_102 : decode cX6_view 102 = .ok (.ireturn, 1) := by decide +kernel
theorem dX6_view_103 : decode cX6_view 103 = .ok (.bipush (-2), 2) := by decide +kernel
theorem dX6_view_105 : decode cX6_view 105 = .ok (.ireturn, 1) := by decide +kernel
theorem dX6_clear_0 : decode cX6_clear 0 = .ok (.iload_n 1, 1) := by decide +kernel
theorem dX6_clear_1 : decode cX6_clear 1 = .ok (.tableswitch 69 0 2 #[27, 35, 53], 27) := by decide +kernel
theorem dX6_clear_28 : decode cX6_clear 28 = .ok (.aload_n 0, 1) := by decide +kernel
theorem dX6_clear_29 : decode cX6_clear 29 = .ok (.invokevirtual 162, 3) := by decide +kernel
theorem dX6_clear_32 : decode cX6_clear 32 = .ok (.invokestatic 165, 3) := by decide +kernel
theorem dX6_clear_35 : decode cX6_clear 35 = .ok (.lreturn, 1) := by decide +kernel
theorem dX6_clear_36 : decode cX6_clear 36 = .ok (.bipush 40, 2) := by decide +kernel
theorem dX6_clear_38 : decode cX6_clear 38 = .ok (.invokestatic 165, 3) := by decide +kernel
theorem dX6_clear_41 : decode cX6_clear 41 = .ok (.aload_n 0, 1) := by decide +kernel
theorem dX6_clear_42 : decode cX6_clear 42 = .ok (.invokevirtual 191, 3) := by decide +kernel
theorem dX6_clear_45 : decode cX6_clear 45 = .ok (.invokestatic 165, 3) := by decide +kernel
theorem dX6_clear_48 : decode cX6_clear 48 = .ok (.ldc2_w 194, 3) := by decide +kernel
theorem dX6_clear_51 : decode cX6_clear 51 = .ok (.lxor, 1) := by decide +kernel
theorem dX6_clear_52 : decode cX6_clear 52 = .ok (.land, 1) := by decide +kernel
theorem dX6_clear_53 : decode cX6_clear 53 = .ok (.lreturn, 1) := by decide +kernel
theorem dX6_clear_54 : decode cX6_clear 54 = .ok (.aload_n 0, 1) := by decide +kernel
theorem dX6_clear_55 : decode cX6_clear 55 = .ok (.invokevirtual 162, 3) := by decide +kernel
theorem dX6_clear_58 : decode cX6_clear 58 = .ok (.invokestatic 165, 3) := by decide +kernel
theorem dX6_clear_61 : decode cX6_clear 61 = .ok (.aload_n 0, 1) := by decide +kernel
theorem dX6_clear_62 : decode cX6_clear 62 = .ok (.getfield 10, 3) := by decide +kernel
theorem dX6_clear_65 : decode cX6_clear 65 = .ok (.invokevirtual 169, 3) := by decide +kernel
theorem dX6_clear_68 : decode cX6_clear 68 = .ok (.land, 1) := by decide +kernel
theorem dX6_clear_69 : decode cX6_clear 69 = .ok (.lreturn, 1) := by decide +kernel
theorem dX6_clear_70 : decode cX6_clear 70 = .ok (.ldc2_w 196, 3) := by decide +kernel
theorem dX6_clear_73 : decode cX6_clear 73 = .ok (.lreturn, 1) := by decide +kernel
theorem dX6_farNow_0 : decode cX6_farNow 0 = .ok (.aload_n 0, 1) := by decide +kernel
theorem dX6_farNow_1 : decode cX6_farNow 1 = .ok (.getfield 38, 3) := by decide +kernel
theorem dX6_farNow_4 : decode cX6_farNow 4 = .ok (.aload_n 0, 1) := by decide +kernel
theorem dX6_farNow_5 : decode cX6_farNow 5 = .ok (.getfield 10, 3) := by decide +kernel
theorem dX6_farNow_8 : decode cX6_farNow 8 = .ok (.iload_n 1, 1) := by decide +kernel
theorem dX6_farNow_9 : decode cX6_farNow 9 = .ok (.invokevirtual 128, 3) := by decide +kernel
theorem dX6_farNow_12 : decode cX6_farNow 12 = .ok (.aload_n 0, 1) := by decide +kernel
theorem dX6_farNow_13 : decode cX6_farNow 13 = .ok (.getfield 38, 3) := by decide +kernel
theorem dX6_farNow_16 : decode cX6_farNow 16 = .ok (.aload_n 0, 1) := by decide +kernel
theorem dX6_farNow_17 : decode cX6_farNow 17 = .ok (.getfield 10, 3) := by decide +kernel
theorem dX6_farNow_20 : decode cX6_farNow 20 = .ok (.iload_n 1, 1) := by decide +kernel
theorem dX6_farNow_21 : decode cX6_farNow 21 = .ok (.invokevirtual 132, 3) := by decide +kernel
theorem dX6_farNow_24 : decode cX6_farNow 24 = .ok (.invokevirtual 138, 3) := by decide +kernel
theorem dX6_farNow_27 : decode cX6_farNow 27 = .ok (.ireturn, 1) := by decide +kernel
theorem dX6_furthest_0 : decode cX6_furthest 0 = .ok (.aload_n 0, 1) := by decide +kernel
theorem dX6_furthest_1 : decode cX6_furthest 1 = .ok (.invokevirtual 182, 3) := by decide +kernel
theorem dX6_furthest_4 : decode cX6_furthest 4 = .ok (.istore_n 1, 1) := by decide +kernel
theorem dX6_furthest_5 : decode cX6_furthest 5 = .ok (.iload_n 1, 1) := by decide +kernel
theorem dX6_furthest_6 : decode cX6_furthest 6 = .ok (.iconst (-1), 1) := by decide +kernel
theorem dX6_furthest_7 : decode cX6_furthest 7 = .ok (.if_icmp .ne 7, 3) := by decide +kernel
theorem dX6_furthest_10 : decode cX6_furthest 10 = .ok (.iconst 0, 1) := by decide +kernel
theorem dX6_furthest_11 : decode cX6_furthest 11 = .ok (.goto 8, 3) := by decide +kernel
theorem dX6_furthest_14 : decode cX6_furthest 14 = .ok (.aload_n 0, 1) := by decide +kernel
theorem dX6_furthest_15 : decode cX6_furthest 15 = .ok (.iload_n 1, 1) := by decide +kernel
theorem dX6_furthest_16 : decode cX6_furthest 16 = .ok (.invokevirtual 198, 3) := by decide +kernel
theorem dX6_furthest_19 : decode cX6_furthest 19 = .ok (.ireturn, 1) := by decide +kernel
theorem dX6_furthestPair_0 : decode cX6_furthestPair 0 = .ok (.iconst (-1), 1) := by decide +kernel
theorem dX6_furthestPair_1 : decode cX6_furthestPair 1 = .ok (.istore_n 1, 1) := by decide +kernel
theorem dX6_furthestPair_2 : decode cX6_furthestPair 2 = .ok (.iconst (-1), 1) := by decide +kernel
theorem dX6_furthestPair_3 : decode cX6_furthestPair 3 = .ok (.istore_n 2, 1) := by decide +kernel
theorem dX6_furthestPair_4 : decode cX6_furthestPair 4 = .ok (.iconst 0, 1) := by decide +kernel
theorem dX6_furthestPair_5 : decode cX6_furthestPair 5 = .ok (.istore_n 3, 1) := by decide +kernel
theorem dX6_furthestPair_6 : decode cX6_furthestPair 6 = .ok (.iload_n 3, 1) := by decide +kernel
theorem dX6_furthestPair_7 : decode cX6_furthestPair 7 = .ok (.aload_n 0, 1) := by decide +kernel
theorem dX6_furthestPair_8 : decode cX6_furthestPair 8 = .ok (.getfield 10, 3) := by decide +kernel
theorem dX6_furthestPair_11 : decode cX6_furthestPair 11 = .ok (.getfield 93, 3) := by decide +kernel
theorem dX6_furthestPair_14 : decode cX6_furthestPair 14 = .ok (.if_icmp .ge 27, 3) := by decide +kernel
theorem dX6_furthestPair_17 : decode cX6_furthestPair 17 = .ok (.aload_n 0, 1) := by decide +kernel
theorem dX6_furthestPair_18 : decode cX6_furthestPair 18 = .ok (.iload_n 3, 1) := by decide +kernel
theorem dX6_furthestPair_19 : decode cX6_furthestPair 19 = .ok (.invokevirtual 198, 3) := by decide +kernel
theorem dX6_furthestPair_22 : decode cX6_furthestPair 22 = .ok (.istore 4, 2) := by decide +kernel
theorem dX6_furthestPair_24 : decode cX6_furthestPair 24 = .ok (.iload 4, 2) := by decide +kernel
theorem dX6_furthestPair_26 : decode cX6_furthestPair 26 = .ok (.iload_n 2, 1) := by decide +kernel
theorem dX6_furthestPair_27 : decode cX6_furthestPair 27 = .ok (.if_icmp .le 8, 3) := by decide +kernel
theorem dX6_furthestPair_30 : decode cX6_furthestPair 30 = .ok (.iload 4, 2) := by decide +kernel
theorem dX6_furthestPair_32 : decode cX6_furthestPair 32 = .ok (.istore_n 2, 1) := by decide +kernel
theorem dX6_furthestPair_33 : decode cX6_furthestPair 33 = .ok (.iload_n 3, 1) := by decide +kernel
theorem dX6_furthestPair_34 : decode cX6_furthestPair 34 = .ok (.istore_n 1, 1) := by decide +kernel
theorem dX6_furthestPair_35 : decode cX6_furthestPair 35 = .ok (.iinc 3 1, 3) := by decide +kernel
theorem dX6_furthestPair_38 : decode cX6_furthestPair 38 = .ok (.goto (-32), 3) := by decide +kernel
theorem dX6_furthestPair_41 : decode cX6_furthestPair 41 = .ok (.iload_n 1, 1) := by decide +kernel
theorem dX6_furthestPair_42 : decode cX6_furthestPair 42 = .ok (.ireturn, 1) := by decide +kernel
theorem dX6_furthestReached_0 : decode cX6_furthestReached 0 = .ok (.iconst 0, 1) := by decide +kernel
theorem dX6_furthestReached_1 : decode cX6_furthestReached 1 = .ok (.istore_n 1, 1) := by decide +kernel
theorem dX6_furthestReached_2 : decode cX6_furthestReached 2 = .ok (.iconst 0, 1) := by decide +kernel
theorem dX6_furthestReached_3 : decode cX6_furthestReached 3 = .ok (.istore_n 2, 1) := by decide +kernel
theorem dX6_furthestReached_4 : decode cX6_furthestReached 4 = .ok (.iload_n 2, 1) := by decide +kernel
theorem dX6_furthestReached_5 : decode cX6_furthestReached 5 = .ok (.aload_n 0, 1) := by decide +kernel
theorem dX6_furthestReached_6 : decode cX6_furthestReached 6 = .ok (.getfield 10, 3) := by decide +kernel
theorem dX6_furthestReached_9 : decode cX6_furthestReached 9 = .ok (.getfield 93, 3) := by decide +kernel
theorem dX6_furthestReached_12 : decode cX6_furthestReached 12 = .ok (.if_icmp .ge 41, 3) := by decide +kernel
theorem dX6_furthestReached_15 : decode cX6_furthestReached 15 = .ok (.aload_n 0, 1) := by decide +kernel
theorem dX6_furthestReached_16 : decode cX6_furthestReached 16 = .ok (.getfield 45, 3) := by decide +kernel
theorem dX6_furthestReached_19 : decode cX6_furthestReached 19 = .ok (.aload_n 0, 1) := by decide +kernel
theorem dX6_furthestReached_20 : decode cX6_furthestReached 20 = .ok (.getfield 38, 3) := by decide +kernel
theorem dX6_furthestReached_23 : decode cX6_furthestReached 23 = .ok (.aload_n 0, 1) := by decide +kernel
theorem dX6_furthestReached_24 : decode cX6_furthestReached 24 = .ok (.getfield 10, 3) := by decide +kernel
theorem dX6_furthestReached_27 : decode cX6_furthestReached 27 = .ok (.iload_n 2, 1) := by decide +kernel
theorem dX6_furthestReached_28 : decode cX6_furthestReached 28 = .ok (.invokevirtual 201, 3) := by decide +kernel
theorem dX6_furthestReached_31 : decode cX6_furthestReached 31 = .ok (.iload_n 1, 1) := by decide +kernel
theorem dX6_furthestReached_32 : decode cX6_furthestReached 32 = .ok (.aload_n 0, 1) := by decide +kernel
theorem dX6_furthestReached_33 : decode cX6_furthestReached 33 = .ok (.getfield 45, 3) := by decide +kernel
theorem dX6_furthestReached_36 : decode cX6_furthestReached 36 = .ok (.aload_n 0, 1) := by decide +kernel
theorem dX6_furthestReached_37 : decode cX6_furthestReached 37 = .ok (.getfield 38, 3) := by decide +kernel
theorem dX6_furthestReached_40 : decode cX6_furthestReached 40 = .ok (.invokevirtual 205, 3) := by decide +kernel
theorem dX6_furthestReached_43 : decode cX6_furthestReached 43 = .ok (.invokestatic 208, 3) := by decide +kernel
theorem dX6_furthestReached_46 : decode cX6_furthestReached 46 = .ok (.istore_n 1, 1) := by decide +kernel
theorem dX6_furthestReached_47 : decode cX6_furthestReached 47 = .ok (.iinc 2 1, 3) := by decide +kernel
theorem dX6_furthestReached_50 : decode cX6_furthestReached 50 = .ok (.goto (-46), 3) := by decide +kernel
theorem dX6_furthestReached_53 : decode cX6_furthestReached 53 = .ok (.iload_n 1, 1) := by decide +kernel
theorem dX6_furthestReached_54 : decode cX6_furthestReached 54 = .ok (.ireturn, 1) := by decide +kernel
theorem dX6_fewest_0 : decode cX6_fewest 0 = .ok (.aload_n 0, 1) := by decide +kernel
theorem dX6_fewest_1 : decode cX6_fewest 1 = .ok (.getfield 10, 3) := by decide +kernel
theorem dX6_fewest_4 : decode cX6_fewest 4 = .ok (.iload_n 1, 1) := by decide +kernel
theorem dX6_fewest_5 : decode cX6_fewest 5 = .ok (.invokevirtual 125, 3) := by decide +kernel
theorem dX6_fewest_8 : decode cX6_fewest 8 = .ok (.ifCond .eq 20, 3) := by decide +kernel
theorem dX6_fewest_11 : decode cX6_fewest 11 = .ok (.iload_n 2, 1) := by decide +kernel
theorem dX6_fewest_12 : decode cX6_fewest 12 = .ok (.bipush 41, 2) := by decide +kernel
theorem dX6_fewest_14 : decode cX6_fewest 14 = .ok (.invokestatic 100, 3) := by decide +kernel
theorem dX6_fewest_17 : decode cX6_fewest 17 = .ok (.ifCond .eq 11, 3) := by decide +kernel
theorem dX6_fewest_20 : decode cX6_fewest 20 = .ok (.iload_n 3, 1) := by decide +kernel
theorem dX6_fewest_21 : decode cX6_fewest 21 = .ok (.iconst 2, 1) := by decide +kernel
theorem dX6_fewest_22 : decode cX6_fewest 22 = .ok (.invokestatic 100, 3) := by decide +kernel
theorem dX6_fewest_25 : decode cX6_fewest 25 = .ok (.ifCond .ne 6, 3) := by decide +kernel
theorem dX6_fewest_28 : decode cX6_fewest 28 = .ok (.bipush (-2), 2) := by decide +kernel
theorem dX6_fewest_30 : decode cX6_fewest 30 = .ok (.ireturn, 1) := by decide +kernel
theorem dX6_fewest_31 : decode cX6_fewest 31 = .ok (.aload_n 0, 1) := by decide +kernel
theorem dX6_fewest_32 : decode cX6_fewest 32 = .ok (.getfield 45, 3) := by decide +kernel
theorem dX6_fewest_35 : decode cX6_fewest 35 = .ok (.aload_n 0, 1) := by decide +kernel
theorem dX6_fewest_36 : decode cX6_fewest 36 = .ok (.getfield 38, 3) := by decide +kernel
theorem dX6_fewest_39 : decode cX6_fewest 39 = .ok (.aload_n 0, 1) := by decide +kernel
theorem dX6_fewest_40 : decode cX6_fewest 40 = .ok (.getfield 10, 3) := by decide +kernel
theorem dX6_fewest_43 : decode cX6_fewest 43 = .ok (.iload_n 1, 1) := by decide +kernel
theorem dX6_fewest_44 : decode cX6_fewest 44 = .ok (.invokevirtual 201, 3) := by decide +kernel
theorem dX6_fewest_47 : decode cX6_fewest 47 = .ok (.aload_n 0, 1) := by decide +kernel
theorem dX6_fewest_48 : decode cX6_fewest 48 = .ok (.getfield 45, 3) := by decide +kernel
theorem dX6_fewest_51 : decode cX6_fewest 51 = .ok (.aload_n 0, 1) := by decide +kernel
theorem dX6_fewest_52 : decode cX6_fewest 52 = .ok (.getfield 38, 3) := by decide +kernel
theorem dX6_fewest_55 : decode cX6_fewest 55 = .ok (.iload_n 2, 1) := by decide +kernel
theorem dX6_fewest_56 : decode cX6_fewest 56 = .ok (.invokevirtual 213, 3) := by decide +kernel
theorem dX6_fewest_59 : decode cX6_fewest 59 = .ok (.istore 4, 2) := by decide +kernel
theorem dX6_fewest_61 : decode cX6_fewest 61 = .ok (.iload_n 3, 1) := by decide +kernel
theorem dX6_fewest_62 : decode cX6_fewest 62 = .ok (.ifCond .ne 15, 3) := by decide +kernel
theorem dX6_fewest_65 : decode cX6_fewest 65 = .ok (.aload_n 0, 1) := by decide +kernel
theorem dX6_fewest_66 : decode cX6_fewest 66 = .ok (.getfield 45, 3) := by decide +kernel
theorem dX6_fewest_69 : decode cX6_fewest 69 = .ok (.iload 4, 2) := by decide +kernel
theorem dX6_fewest_71 : decode cX6_fewest 71 = .ok (.invokevirtual 217, 3) := by decide +kernel
theorem dX6_fewest_74 : decode cX6_fewest 74 = .ok (.goto 12, 3) := by decide +kernel
theorem dX6_fewest_77 : decode cX6_fewest 77 = .ok (.aload_n 0, 1) := by decide +kernel
theorem dX6_fewest_78 : decode cX6_fewest 78 = .ok (.getfield 45, 3) := by decide +kernel
theorem dX6_fewest_81 : decode cX6_fewest 81 = .ok (.iload 4, 2) := by decide +kernel
theorem dX6_fewest_83 : decode cX6_fewest 83 = .ok (.invokevirtual 220, 3) := by decide +kernel
theorem dX6_fewest_86 : decode cX6_fewest 86 = .ok (.ireturn, 1) := by decide +kernel
theorem dX6_words_0 : decode cX6_words 0 = .ok (.aload_n 0, 1) := by decide +kernel
theorem dX6_words_1 : decode cX6_words 1 = .ok (.getfield 10, 3) := by decide +kernel
theorem dX6_words_4 : decode cX6_words 4 = .ok (.iload_n 1, 1) := by decide +kernel
theorem dX6_words_5 : decode cX6_words 5 = .ok (.invokevirtual 125, 3) := by decide +kernel
theorem dX6_words_8 : decode cX6_words 8 = .ok (.ifCond .eq 12, 3) := by decide +kernel
theorem dX6_words_11 : decode cX6_words 11 = .ok (.iload_n 2, 1) := by decide +kernel
theorem dX6_words_12 : decode cX6_words 12 = .ok (.bipush 6, 2) := by decide +kernel
theorem dX6_words_14 : decode cX6_words 14 = .ok (.invokestatic 100, 3) := by decide +kernel
theorem dX6_words_17 : decode cX6_words 17 = .ok (.ifCond .ne 6, 3) := by decide +kernel
theorem dX6_words_20 : decode cX6_words 20 = .ok (.bipush (-2), 2) := by decide +kernel
theorem dX6_words_22 : decode cX6_words 22 = .ok (.ireturn, 1) := by decide +kernel
theorem dX6_words_23 : decode cX6_words 23 = .ok (.aload_n 0, 1) := by decide +kernel
theorem dX6_words_24 : decode cX6_words 24 = .ok (.getfield 45, 3) := by decide +kernel
theorem dX6_words_27 : decode cX6_words 27 = .ok (.aload_n 0, 1) := by decide +kernel
theorem dX6_words_28 : decode cX6_words 28 = .ok (.getfield 38, 3) := by decide +kernel
theorem dX6_words_31 : decode cX6_words 31 = .ok (.aload_n 0, 1) := by decide +kernel
theorem dX6_words_32 : decode cX6_words 32 = .ok (.getfield 10, 3) := by decide +kernel
theorem dX6_words_35 : decode cX6_words 35 = .ok (.iload_n 1, 1) := by decide +kernel
theorem dX6_words_36 : decode cX6_words 36 = .ok (.invokevirtual 201, 3) := by decide +kernel
theorem dX6_words_39 : decode cX6_words 39 = .ok (.iload_n 2, 1) := by decide +kernel
theorem dX6_words_40 : decode cX6_words 40 = .ok (.tableswitch 82 0 4 #[36, 45, 53, 61, 69], 36) := by decide +kernel
theorem dX6_words_76 : decode cX6_words 76 = .ok (.aload_n 0, 1) := by decide +kernel
theorem dX6_words_77 : decode cX6_words 77 = .ok (.getfield 45, 3) := by decide +kernel
theorem dX6_words_80 : decode cX6_words 80 = .ok (.iconst 0, 1) := by decide +kernel
theorem dX6_words_81 : decode cX6_words 81 = .ok (.invokevirtual 217, 3) := by decide +kernel
theorem dX6_words_84 : decode cX6_words 84 = .ok (.ireturn, 1) := by decide +kernel
theorem dX6_words_85 : decode cX6_words 85 = .ok (.aload_n 0, 1) := by decide +kernel
theorem dX6_words_86 : decode cX6_words 86 = .ok (.getfield 45, 3) := by decide +kernel
theorem dX6_words_89 : decode cX6_words 89 = .ok (.getfield 223, 3) := by decide +kernel
theorem dX6_words_92 : decode cX6_words 92 = .ok (.ireturn, 1) := by decide +kernel
theorem dX6_words_93 : decode cX6_words 93 = .ok (.aload_n 0, 1) := by decide +kernel
theorem dX6_words_94 : decode cX6_words 94 = .ok (.getfield 45, 3) := by decide +kernel
theorem dX6_words_97 : decode cX6_words 97 = .ok (.invokevirtual 224, 3) := by decide +kernel
theorem dX6_words_100 : decode cX6_words 100 = .ok (.ireturn, 1) := by decide +kernel
theorem dX6_words_101 : decode cX6_words 101 = .ok (.aload_n 0, 1) := by decide +kernel
theorem dX6_words_102 : decode cX6_words 102 = .ok (.getfield 45, 3) := by decide +kernel
theorem dX6_words_105 : decode cX6_words 105 = .ok (.invokevirtual 227, 3) := by decide +kernel
theorem dX6_words_108 : decode cX6_words 108 = .ok (.ireturn, 1) := by decide +kernel
theorem dX6_words_109 : decode cX6_words 109 = .ok (.aload_n 0, 1) := by decide +kernel
theorem dX6_words_110 : decode cX6_words 110 = .ok (.aload_n 0, 1) := by decide +kernel
theorem dX6_words_111 : decode cX6_words 111 = .ok (.getfield 10, 3) := by decide +kernel
theorem dX6_words_114 : decode cX6_words 114 = .ok (.iload_n 1, 1) := by decide +kernel
theorem dX6_words_115 : decode cX6_words 115 = .ok (.invokevirtual 132, 3) := by decide +kernel
theorem dX6_words_118 : decode cX6_words 118 = .ok (.invokevirtual 230, 3) := by decide +kernel
theorem dX6_words_121 : decode cX6_words 121 = .ok (.ireturn, 1) := by decide +kernel
theorem dX6_words_122 : decode cX6_words 122 = .ok (.aload_n 0, 1) := by decide +kernel
theorem dX6_words_123 : decode cX6_words 123 = .ok (.aload_n 0, 1) := by decide +kernel
theorem dX6_words_124 : decode cX6_words 124 = .ok (.getfield 10, 3) := by decide +kernel
theorem dX6_words_127 : decode cX6_words 127 = .ok (.iload_n 1, 1) := by decide +kernel
theorem dX6_words_128 : decode cX6_words 128 = .ok (.invokevirtual 132, 3) := by decide +kernel
theorem dX6_words_131 : decode cX6_words 131 = .ok (.aload_n 0, 1) := by decide +kernel
theorem dX6_words_132 : decode cX6_words 132 = .ok (.aload_n 0, 1) := by decide +kernel
theorem dX6_words_133 : decode cX6_words 133 = .ok (.getfield 10, 3) := by decide +kernel
theorem dX6_words_136 : decode cX6_words 136 = .ok (.iload_n 1, 1) := by decide +kernel
theorem dX6_words_137 : decode cX6_words 137 = .ok (.invokevirtual 132, 3) := by decide +kernel
theorem dX6_words_140 : decode cX6_words 140 = .ok (.invokevirtual 230, 3) := by decide +kernel
theorem dX6_words_143 : decode cX6_words 143 = .ok (.invokevirtual 233, 3) := by decide +kernel
theorem dX6_words_146 : decode cX6_words 146 = .ok (.ireturn, 1) := by decide +kernel
theorem dX6_farBehind_0 : decode cX6_farBehind 0 = .ok (.aload_n 0, 1) := by decide +kernel
theorem dX6_farBehind_1 : decode cX6_farBehind 1 = .ok (.getfield 38, 3) := by decide +kernel
theorem dX6_farBehind_4 : decode cX6_farBehind 4 = .ok (.aload_n 0, 1) := by decide +kernel
theorem dX6_farBehind_5 : decode cX6_farBehind 5 = .ok (.getfield 38, 3) := by decide +kernel
theorem dX6_farBehind_8 : decode cX6_farBehind 8 = .ok (.iload_n 1, 1) := by decide +kernel
theorem dX6_farBehind_9 : decode cX6_farBehind 9 = .ok (.iload_n 2, 1) := by decide +kernel
theorem dX6_farBehind_10 : decode cX6_farBehind 10 = .ok (.invokevirtual 149, 3) := by decide +kernel
theorem dX6_farBehind_13 : decode cX6_farBehind 13 = .ok (.invokevirtual 138, 3) := by decide +kernel
theorem dX6_farBehind_16 : decode cX6_farBehind 16 = .ok (.ireturn, 1) := by decide +kernel
theorem dX6_bestWord_0 : decode cX6_bestWord 0 = .ok (.iconst 0, 1) := by decide +kernel
theorem dX6_bestWord_1 : decode cX6_bestWord 1 = .ok (.istore_n 2, 1) := by decide +kernel
theorem dX6_bestWord_2 : decode cX6_bestWord 2 = .ok (.iconst 1, 1) := by decide +kernel
theorem dX6_bestWord_3 : decode cX6_bestWord 3 = .ok (.istore_n 3, 1) := by decide +kernel
theorem dX6_bestWord_4 : decode cX6_bestWord 4 = .ok (.iload_n 3, 1) := by decide +kernel
theorem dX6_bestWord_5 : decode cX6_bestWord 5 = .ok (.bipush 6, 2) := by decide +kernel
theorem dX6_bestWord_7 : decode cX6_bestWord 7 = .ok (.if_icmp .ge 26, 3) := by decide +kernel
theorem dX6_bestWord_10 : decode cX6_bestWord 10 = .ok (.aload_n 0, 1) := by decide +kernel
theorem dX6_bestWord_11 : decode cX6_bestWord 11 = .ok (.iload_n 1, 1) := by decide +kernel
theorem dX6_bestWord_12 : decode cX6_bestWord 12 = .ok (.iload_n 3, 1) := by decide +kernel
theorem dX6_bestWord_13 : decode cX6_bestWord 13 = .ok (.invokevirtual 233, 3) := by decide +kernel
theorem dX6_bestWord_16 : decode cX6_bestWord 16 = .ok (.aload_n 0, 1) := by decide +kernel
theorem dX6_bestWord_17 : decode cX6_bestWord 17 = .ok (.iload_n 1, 1) := by decide +kernel
theorem dX6_bestWord_18 : decode cX6_bestWord 18 = .ok (.iload_n 2, 1) := by decide +kernel
theorem dX6_bestWord_19 : decode cX6_bestWord 19 = .ok (.invokevirtual 233, 3) := by decide +kernel
theorem dX6_bestWord_22 : decode cX6_bestWord 22 = .ok (.if_icmp .le 5, 3) := by decide +kernel
theorem dX6_bestWord_25 : decode cX6_bestWord 25 = .ok (.iload_n 3, 1) := by decide +kernel
theorem dX6_bestWord_26 : decode cX6_bestWord 26 = .ok (.istore_n 2, 1) := by decide +kernel
theorem dX6_bestWord_27 : decode cX6_bestWord 27 = .ok (.iinc 3 1, 3) := by decide +kernel
theorem dX6_bestWord_30 : decode cX6_bestWord 30 = .ok (.goto (-26), 3) := by decide +kernel
theorem dX6_bestWord_33 : decode cX6_bestWord 33 = .ok (.iload_n 2, 1) := by decide +kernel
theorem dX6_bestWord_34 : decode cX6_bestWord 34 = .ok (.ireturn, 1) := by decide +kernel
theorem dX6_stays_0 : decode cX6_stays 0 = .ok (.aload_n 0, 1) := by decide +kernel
theorem dX6_stays_1 : decode cX6_stays 1 = .ok (.getfield 10, 3) := by decide +kernel
theorem dX6_stays_4 : decode cX6_stays 4 = .ok (.iload_n 1, 1) := by decide +kernel
theorem dX6_stays_5 : decode cX6_stays 5 = .ok (.invokevirtual 125, 3) := by decide +kernel
theorem dX6_stays_8 : decode cX6_stays 8 = .ok (.ifCond .eq 12, 3) := by decide +kernel
theorem dX6_stays_11 : decode cX6_stays 11 = .ok (.iload_n 2, 1) := by decide +kernel
theorem dX6_stays_12 : decode cX6_stays 12 = .ok (.bipush 40, 2) := by decide +kernel
theorem dX6_stays_14 : decode cX6_stays 14 = .ok (.invokestatic 100, 3) := by decide +kernel
theorem dX6_stays_17 : decode cX6_stays 17 = .ok (.ifCond .ne 6, 3) := by decide +kernel
theorem dX6_stays_20 : decode cX6_stays 20 = .ok (.bipush (-2), 2) := by decide +kernel
theorem dX6_stays_22 : decode cX6_stays 22 = .ok (.ireturn, 1) := by decide +kernel
theorem dX6_stays_23 : decode cX6_stays 23 = .ok (.aload_n 0, 1) := by decide +kernel
theorem dX6_stays_24 : decode cX6_stays 24 = .ok (.getfield 38, 3) := by decide +kernel
theorem dX6_stays_27 : decode cX6_stays 27 = .ok (.aload_n 0, 1) := by decide +kernel
theorem dX6_stays_28 : decode cX6_stays 28 = .ok (.getfield 10, 3) := by decide +kernel
theorem dX6_stays_31 : decode cX6_stays 31 = .ok (.iload_n 1, 1) := by decide +kernel
theorem dX6_stays_32 : decode cX6_stays 32 = .ok (.invokevirtual 128, 3) := by decide +kernel
theorem dX6_stays_35 : decode cX6_stays 35 = .ok (.aload_n 0, 1) := by decide +kernel
theorem dX6_stays_36 : decode cX6_stays 36 = .ok (.getfield 10, 3) := by decide +kernel
theorem dX6_stays_39 : decode cX6_stays 39 = .ok (.iload_n 1, 1) := by decide +kernel
theorem dX6_stays_40 : decode cX6_stays 40 = .ok (.invokevirtual 132, 3) := by decide +kernel
theorem dX6_stays_43 : decode cX6_stays 43 = .ok (.istore_n 3, 1) := by decide +kernel
theorem dX6_stays_44 : decode cX6_stays 44 = .ok (.iconst 0, 1) := by decide +kernel
theorem dX6_stays_45 : decode cX6_stays 45 = .ok (.istore 4, 2) := by decide +kernel
theorem dX6_stays_47 : decode cX6_stays 47 = .ok (.iload 4, 2) := by decide +kernel
theorem dX6_stays_49 : decode cX6_stays 49 = .ok (.bipush 100, 2) := by decide +kernel
theorem dX6_stays_51 : decode cX6_stays 51 = .ok (.if_icmp .ge 30, 3) := by decide +kernel
theorem dX6_stays_54 : decode cX6_stays 54 = .ok (.aload_n 0, 1) := by decide +kernel
theorem dX6_stays_55 : decode cX6_stays 55 = .ok (.getfield 38, 3) := by decide +kernel
theorem dX6_stays_58 : decode cX6_stays 58 = .ok (.iload_n 3, 1) := by decide +kernel
theorem dX6_stays_59 : decode cX6_stays 59 = .ok (.invokevirtual 138, 3) := by decide +kernel
theorem dX6_stays_62 : decode cX6_stays 62 = .ok (.iload_n 2, 1) := by decide +kernel
theorem dX6_stays_63 : decode cX6_stays 63 = .ok (.if_icmp .le 18, 3) := by decide +kernel
theorem dX6_stays_66 : decode cX6_stays 66 = .ok (.aload_n 0, 1) := by decide +kernel
theorem dX6_stays_67 : decode cX6_stays 67 = .ok (.getfield 38, 3) := by decide +kernel
theorem dX6_stays_70 : decode cX6_stays 70 = .ok (.iload_n 3, 1) := by decide +kernel
theorem dX6_stays_71 : decode cX6_stays 71 = .ok (.invokevirtual 159, 3) := by decide +kernel
theorem dX6_stays_74 : decode cX6_stays 74 = .ok (.istore_n 3, 1) := by decide +kernel
theorem dX6_stays_75 : decode cX6_stays 75 = .ok (.iinc 4 1, 3) := by decide +kernel
theorem dX6_stays_78 : decode cX6_stays 78 = .ok (.goto (-31), 3) := by decide +kernel
theorem dX6_stays_81 : decode cX6_stays 81 = .ok (.iload 4, 2) := by decide +kernel
theorem dX6_stays_83 : decode cX6_stays 83 = .ok (.ireturn, 1) := by decide +kernel
theorem dX6_rows_0 : decode cX6_rows 0 = .ok (.aload_n 0, 1) := by decide +kernel
theorem dX6_rows_1 : decode cX6_rows 1 = .ok (.getfield 10, 3) := by decide +kernel
theorem dX6_rows_4 : decode cX6_rows 4 = .ok (.iload_n 1, 1) := by decide +kernel
theorem dX6_rows_5 : decode cX6_rows 5 = .ok (.invokevirtual 125, 3) := by decide +kernel
theorem dX6_rows_8 : decode cX6_rows 8 = .ok (.ifCond .eq 30, 3) := by decide +kernel
theorem dX6_rows_11 : decode cX6_rows 11 = .ok (.iload_n 2, 1) := by decide +kernel
theorem dX6_rows_12 : decode cX6_rows 12 = .ok (.bipush 41, 2) := by decide +kernel
theorem dX6_rows_14 : decode cX6_rows 14 = .ok (.invokestatic 100, 3) := by decide +kernel
theorem dX6_rows_17 : decode cX6_rows 17 = .ok (.ifCond .eq 21, 3) := by decide +kernel
theorem dX6_rows_20 : decode cX6_rows 20 = .ok (.iload_n 3, 1) := by decide +kernel
theorem dX6_rows_21 : decode cX6_rows 21 = .ok (.bipush 21, 2) := by decide +kernel
theorem dX6_rows_23 : decode cX6_rows 23 = .ok (.invokestatic 100, 3) := by decide +kernel
theorem dX6_rows_26 : decode cX6_rows 26 = .ok (.ifCond .eq 12, 3) := by decide +kernel
theorem dX6_rows_29 : decode cX6_rows 29 = .ok (.iload 4, 2) := by decide +kernel
theorem dX6_rows_31 : decode cX6_rows 31 = .ok (.iconst 2, 1) := by decide +kernel
theorem dX6_rows_32 : decode cX6_rows 32 = .ok (.invokestatic 100, 3) := by decide +kernel
theorem dX6_rows_35 : decode cX6_rows 35 = .ok (.ifCond .ne 7, 3) := by decide +kernel
theorem dX6_rows_38 : decode cX6_rows 38 = .ok (.ldc2_w 196, 3) := by decide +kernel
theorem dX6_rows_41 : decode cX6_rows 41 = .ok (.lreturn, 1) := by decide +kernel
theorem dX6_rows_42 : decode cX6_rows 42 = .ok (.aload_n 0, 1) := by decide +kernel
theorem dX6_rows_43 : decode cX6_rows 43 = .ok (.getfield 45, 3) := by decide +kernel
theorem dX6_rows_46 : decode cX6_rows 46 = .ok (.aload_n 0, 1) := by decide +kernel
theorem dX6_rows_47 : decode cX6_rows 47 = .ok (.getfield 38, 3) := by decide +kernel
theorem dX6_rows_50 : decode cX6_rows 50 = .ok (.aload_n 0, 1) := by decide +kernel
theorem dX6_rows_51 : decode cX6_rows 51 = .ok (.getfield 10, 3) := by decide +kernel
theorem dX6_rows_54 : decode cX6_rows 54 = .ok (.iload_n 1, 1) := by decide +kernel
theorem dX6_rows_55 : decode cX6_rows 55 = .ok (.invokevirtual 201, 3) := by decide +kernel
theorem dX6_rows_58 : decode cX6_rows 58 = .ok (.lconst 1, 1) := by decide +kernel
theorem dX6_rows_59 : decode cX6_rows 59 = .ok (.lstore 5, 2) := by decide +kernel
theorem dX6_rows_61 : decode cX6_rows 61 = .ok (.iconst 0, 1) := by decide +kernel
theorem dX6_rows_62 : decode cX6_rows 62 = .ok (.istore 7, 2) := by decide +kernel
theorem dX6_rows_64 : decode cX6_rows 64 = .ok (.iload 7, 2) := by decide +kernel
theorem dX6_rows_66 : decode cX6_rows 66 = .ok (.iload_n 3, 1) := by decide +kernel
theorem dX6_rows_67 : decode cX6_rows 67 = .ok (.if_icmp .ge 17, 3) := by decide +kernel
theorem dX6_rows_70 : decode cX6_rows 70 = .ok (.lload 5, 2) := by decide +kernel
theorem dX6_rows_72 : decode cX6_rows 72 = .ok (.ldc2_w 236, 3) := by decide +kernel
theorem dX6_rows_75 : decode cX6_rows 75 = .ok (.lmul, 1) := by decide +kernel
theorem dX6_rows_76 : decode cX6_rows 76 = .ok (.lstore 5, 2) := by decide +kernel
theorem dX6_rows_78 : decode cX6_rows 78 = .ok (.iinc 7 1, 3) := by decide +kernel
theorem dX6_rows_81 : decode cX6_rows 81 = .ok (.goto (-17), 3) := by decide +kernel
theorem dX6_rows_84 : decode cX6_rows 84 = .ok (.aload_n 0, 1) := by decide +kernel
theorem dX6_rows_85 : decode cX6_rows 85 = .ok (.getfield 45, 3) := by decide +kernel
theorem dX6_rows_88 : decode cX6_rows 88 = .ok (.aload_n 0, 1) := by decide +kernel
theorem dX6_rows_89 : decode cX6_rows 89 = .ok (.getfield 38, 3) := by decide +kernel
theorem dX6_rows_92 : decode cX6_rows 92 = .ok (.iload_n 2, 1) := by decide +kernel
theorem dX6_rows_93 : decode cX6_rows 93 = .ok (.iload_n 3, 1) := by decide +kernel
theorem dX6_rows_94 : decode cX6_rows 94 = .ok (.invokevirtual 238, 3) := by decide +kernel
theorem dX6_rows_97 : decode cX6_rows 97 = .ok (.lload 5, 2) := by decide +kernel
theorem dX6_rows_99 : decode cX6_rows 99 = .ok (.iload 4, 2) := by decide +kernel
theorem dX6_rows_101 : decode cX6_rows 101 = .ok (.invokestatic 242, 3) := by decide +kernel
theorem dX6_rows_104 : decode cX6_rows 104 = .ok (.lreturn, 1) := by decide +kernel
theorem dX6_whom_0 : decode cX6_whom 0 = .ok (.iload_n 1, 1) := by decide +kernel
theorem dX6_whom_1 : decode cX6_whom 1 = .ok (.bipush 40, 2) := by decide +kernel
theorem dX6_whom_3 : decode cX6_whom 3 = .ok (.invokestatic 100, 3) := by decide +kernel
theorem dX6_whom_6 : decode cX6_whom 6 = .ok (.ifCond .eq 11, 3) := by decide +kernel
theorem dX6_whom_9 : decode cX6_whom 9 = .ok (.iload_n 2, 1) := by decide +kernel
theorem dX6_whom_10 : decode cX6_whom 10 = .ok (.iconst 2, 1) := by decide +kernel
theorem dX6_whom_11 : decode cX6_whom 11 = .ok (.invokestatic 100, 3) := by decide +kernel
theorem dX6_whom_14 : decode cX6_whom 14 = .ok (.ifCond .ne 6, 3) := by decide +kernel
theorem dX6_whom_17 : decode cX6_whom 17 = .ok (.bipush (-2), 2) := by decide +kernel
theorem dX6_whom_19 : decode cX6_whom 19 = .ok (.ireturn, 1) := by decide +kernel
theorem dX6_whom_20 : decode cX6_whom 20 = .ok (.aload_n 0, 1) := by decide +kernel
theorem dX6_whom_21 : decode cX6_whom 21 = .ok (.iload_n 1, 1) := by decide +kernel
theorem dX6_whom_22 : decode cX6_whom 22 = .ok (.iload_n 2, 1) := by decide +kernel
theorem dX6_whom_23 : decode cX6_whom 23 = .ok (.invokevirtual 188, 3) := by decide +kernel
theorem dX6_whom_26 : decode cX6_whom 26 = .ok (.ireturn, 1) := by decide +kernel
theorem dX6_nearest_0 : decode cX6_nearest 0 = .ok (.iconst (-1), 1) := by decide +kernel
theorem dX6_nearest_1 : decode cX6_nearest 1 = .ok (.istore_n 3, 1) := by decide +kernel
theorem dX6_nearest_2 : decode cX6_nearest 2 = .ok (.iconst (-1), 1) := by decide +kernel
theorem dX6_nearest_3 : decode cX6_nearest 3 = .ok (.istore 4, 2) := by decide +kernel
theorem dX6_nearest_5 : decode cX6_nearest 5 = .ok (.iconst 0, 1) := by decide +kernel
theorem dX6_nearest_6 : decode cX6_nearest 6 = .ok (.istore 5, 2) := by decide +kernel
theorem dX6_nearest_8 : decode cX6_nearest 8 = .ok (.iload 5, 2) := by decide +kernel
theorem dX6_nearest_10 : decode cX6_nearest 10 = .ok (.aload_n 0, 1) := by decide +kernel
theorem dX6_nearest_11 : decode cX6_nearest 11 = .ok (.getfield 10, 3) := by decide +kernel
theorem dX6_nearest_14 : decode cX6_nearest 14 = .ok (.getfield 93, 3) := by decide +kernel
theorem dX6_nearest_17 : decode cX6_nearest 17 = .ok (.if_icmp .ge 74, 3) := by decide +kernel
theorem dX6_nearest_20 : decode cX6_nearest 20 = .ok (.aload_n 0, 1) := by decide +kernel
theorem dX6_nearest_21 : decode cX6_nearest 21 = .ok (.getfield 45, 3) := by decide +kernel
theorem dX6_nearest_24 : decode cX6_nearest 24 = .ok (.aload_n 0, 1) := by decide +kernel
theorem dX6_nearest_25 : decode cX6_nearest 25 = .ok (.getfield 38, 3) := by decide +kernel
theorem dX6_nearest_28 : decode cX6_nearest 28 = .ok (.aload_n 0, 1) := by decide +kernel
theorem dX6_nearest_29 : decode cX6_nearest 29 = .ok (.getfield 10, 3) := by decide +kernel
theorem dX6_nearest_32 : decode cX6_nearest 32 = .ok (.iload 5, 2) := by decide +kernel
theorem dX6_nearest_34 : decode cX6_nearest 34 = .ok (.invokevirtual 201, 3) := by decide +kernel
theorem dX6_nearest_37 : decode cX6_nearest 37 = .ok (.aload_n 0, 1) := by decide +kernel
theorem dX6_nearest_38 : decode cX6_nearest 38 = .ok (.getfield 45, 3) := by decide +kernel
theorem dX6_nearest_41 : decode cX6_nearest 41 = .ok (.aload_n 0, 1) := by decide +kernel
theorem dX6_nearest_42 : decode cX6_nearest 42 = .ok (.getfield 45, 3) := by decide +kernel
theorem dX6_nearest_45 : decode cX6_nearest 45 = .ok (.aload_n 0, 1) := by decide +kernel
theorem dX6_nearest_46 : decode cX6_nearest 46 = .ok (.getfield 38, 3) := by decide +kernel
theorem dX6_nearest_49 : decode cX6_nearest 49 = .ok (.iload_n 1, 1) := by decide +kernel
theorem dX6_nearest_50 : decode cX6_nearest 50 = .ok (.iconst 1, 1) := by decide +kernel
theorem dX6_nearest_51 : decode cX6_nearest 51 = .ok (.iadd, 1) := by decide +kernel
theorem dX6_nearest_52 : decode cX6_nearest 52 = .ok (.invokevirtual 213, 3) := by decide +kernel
theorem dX6_nearest_55 : decode cX6_nearest 55 = .ok (.invokevirtual 217, 3) := by decide +kernel
theorem dX6_nearest_58 : decode cX6_nearest 58 = .ok (.istore 6, 2) := by decide +kernel
theorem dX6_nearest_60 : decode cX6_nearest 60 = .ok (.iload 6, 2) := by decide +kernel
theorem dX6_nearest_62 : decode cX6_nearest 62 = .ok (.iconst (-1), 1) := by decide +kernel
theorem dX6_nearest_63 : decode cX6_nearest 63 = .ok (.if_icmp .eq 22, 3) := by decide +kernel
theorem dX6_nearest_66 : decode cX6_nearest 66 = .ok (.iload_n 3, 1) := by decide +kernel
theorem dX6_nearest_67 : decode cX6_nearest 67 = .ok (.iconst (-1), 1) := by decide +kernel
theorem dX6_nearest_68 : decode cX6_nearest 68 = .ok (.if_icmp .eq 10, 3) := by decide +kernel
theorem dX6_nearest_71 : decode cX6_nearest 71 = .ok (.iload 6, 2) := by decide +kernel
theorem dX6_nearest_73 : decode cX6_nearest 73 = .ok (.iload 4, 2) := by decide +kernel
theorem dX6_nearest_75 : decode cX6_nearest 75 = .ok (.if_icmp .ge 10, 3) := by decide +kernel
theorem dX6_nearest_78 : decode cX6_nearest 78 = .ok (.iload 5, 2) := by decide +kernel
theorem dX6_nearest_80 : decode cX6_nearest 80 = .ok (.istore_n 3, 1) := by decide +kernel
theorem dX6_nearest_81 : decode cX6_nearest 81 = .ok (.iload 6, 2) := by decide +kernel
theorem dX6_nearest_83 : decode cX6_nearest 83 = .ok (.istore 4, 2) := by decide +kernel
theorem dX6_nearest_85 : decode cX6_nearest 85 = .ok (.iinc 5 1, 3) := by decide +kernel
theorem dX6_nearest_88 : decode cX6_nearest 88 = .ok (.goto (-80), 3) := by decide +kernel
theorem dX6_nearest_91 : decode cX6_nearest 91 = .ok (.iload_n 2, 1) := by decide +kernel
theorem dX6_nearest_92 : decode cX6_nearest 92 = .ok (.ifCond .ne 7, 3) := by decide +kernel
theorem dX6_nearest_95 : decode cX6_nearest 95 = .ok (.iload_n 3, 1) := by decide +kernel
theorem dX6_nearest_96 : decode cX6_nearest 96 = .ok (.goto 5, 3) := by decide +kernel
theorem dX6_nearest_99 : decode cX6_nearest 99 = .ok (.iload 4, 2) := by decide +kernel
theorem dX6_nearest_101 : decode cX6_nearest 101 = .ok (.ireturn, 1) := by decide +kernel
theorem dX6_tells_0 : decode cX6_tells 0 = .ok (.iload_n 1, 1) := by decide +kernel
theorem dX6_tells_1 : decode cX6_tells 1 = .ok (.iconst 4, 1) := by decide +kernel
theorem dX6_tells_2 : decode cX6_tells 2 = .ok (.invokestatic 100, 3) := by decide +kernel
theorem dX6_tells_5 : decode cX6_tells 5 = .ok (.ifCond .eq 23, 3) := by decide +kernel
theorem dX6_tells_8 : decode cX6_tells 8 = .ok (.aload_n 0, 1) := by decide +kernel
theorem dX6_tells_9 : decode cX6_tells 9 = .ok (.getfield 10, 3) := by decide +kernel
theorem dX6_tells_12 : decode cX6_tells 12 = .ok (.iload_n 2, 1) := by decide +kernel
theorem dX6_tells_13 : decode cX6_tells 13 = .ok (.invokevirtual 125, 3) := by decide +kernel
theorem dX6_tells_16 : decode cX6_tells 16 = .ok (.ifCond .eq 12, 3) := by decide +kernel
theorem dX6_tells_19 : decode cX6_tells 19 = .ok (.iload_n 3, 1) := by decide +kernel
theorem dX6_tells_20 : decode cX6_tells 20 = .ok (.bipush 8, 2) := by decide +kernel
theorem dX6_tells_22 : decode cX6_tells 22 = .ok (.invokestatic 100, 3) := by decide +kernel
theorem dX6_tells_25 : decode cX6_tells 25 = .ok (.ifCond .ne 6, 3) := by decide +kernel
theorem dX6_tells_28 : decode cX6_tells 28 = .ok (.bipush (-2), 2) := by decide +kernel
theorem dX6_tells_30 : decode cX6_tells 30 = .ok (.ireturn, 1) := by decide +kernel
theorem dX6_tells_31 : decode cX6_tells 31 = .ok (.aload_n 0, 1) := by decide +kernel
theorem dX6_tells_32 : decode cX6_tells 32 = .ok (.getfield 52, 3) := by decide +kernel
theorem dX6_tells_35 : decode cX6_tells 35 = .ok (.iload_n 1, 1) := by decide +kernel
theorem dX6_tells_36 : decode cX6_tells 36 = .ok (.aaload, 1) := by decide +kernel
theorem dX6_tells_37 : decode cX6_tells 37 = .ok (.astore 4, 2) := by decide +kernel
theorem dX6_tells_39 : decode cX6_tells 39 = .ok (.aload 4, 2) := by decide +kernel
theorem dX6_tells_41 : decode cX6_tells 41 = .ok (.invokevirtual 246, 3) := by decide +kernel
theorem dX6_tells_44 : decode cX6_tells 44 = .ok (.ifCond .eq 6, 3) := by decide +kernel
theorem dX6_tells_47 : decode cX6_tells 47 = .ok (.bipush (-11), 2) := by decide +kernel
theorem dX6_tells_49 : decode cX6_tells 49 = .ok (.ireturn, 1) := by decide +kernel
theorem dX6_tells_50 : decode cX6_tells 50 = .ok (.aload_n 0, 1) := by decide +kernel
theorem dX6_tells_51 : decode cX6_tells 51 = .ok (.getfield 38, 3) := by decide +kernel
theorem dX6_tells_54 : decode cX6_tells 54 = .ok (.aload_n 0, 1) := by decide +kernel
theorem dX6_tells_55 : decode cX6_tells 55 = .ok (.getfield 10, 3) := by decide +kernel
theorem dX6_tells_58 : decode cX6_tells 58 = .ok (.iload_n 2, 1) := by decide +kernel
theorem dX6_tells_59 : decode cX6_tells 59 = .ok (.invokevirtual 128, 3) := by decide +kernel
theorem dX6_tells_62 : decode cX6_tells 62 = .ok (.aload_n 0, 1) := by decide +kernel
theorem dX6_tells_63 : decode cX6_tells 63 = .ok (.getfield 10, 3) := by decide +kernel
theorem dX6_tells_66 : decode cX6_tells 66 = .ok (.iload_n 2, 1) := by decide +kernel
theorem dX6_tells_67 : decode cX6_tells 67 = .ok (.invokevirtual 132, 3) := by decide +kernel
theorem dX6_tells_70 : decode cX6_tells 70 = .ok (.istore 5, 2) := by decide +kernel
theorem dX6_tells_72 : decode cX6_tells 72 = .ok (.iload_n 3, 1) := by decide +kernel
theorem dX6_tells_73 : decode cX6_tells 73 = .ok (.tableswitch 102 0 6 #[43, 52, 61, 70, 77, 84, 93], 43) := by decide +kernel
theorem dX6_tells_116 : decode cX6_tells 116 = .ok (.aload_n 0, 1) := by decide +kernel
theorem dX6_tells_117 : decode cX6_tells 117 = .ok (.aload 4, 2) := by decide +kernel
theorem dX6_tells_119 : decode cX6_tells 119 = .ok (.iload 5, 2) := by decide +kernel
theorem dX6_tells_121 : decode cX6_tells 121 = .ok (.invokevirtual 250, 3) := by decide +kernel
theorem dX6_tells_124 : decode cX6_tells 124 = .ok (.ireturn, 1) := by decide +kernel
theorem dX6_tells_125 : decode cX6_tells 125 = .ok (.aload_n 0, 1) := by decide +kernel
theorem dX6_tells_126 : decode cX6_tells 126 = .ok (.aload 4, 2) := by decide +kernel
theorem dX6_tells_128 : decode cX6_tells 128 = .ok (.iload 5, 2) := by decide +kernel
theorem dX6_tells_130 : decode cX6_tells 130 = .ok (.invokevirtual 254, 3) := by decide +kernel
theorem dX6_tells_133 : decode cX6_tells 133 = .ok (.ireturn, 1) := by decide +kernel
theorem dX6_tells_134 : decode cX6_tells 134 = .ok (.aload_n 0, 1) := by decide +kernel
theorem dX6_tells_135 : decode cX6_tells 135 = .ok (.aload 4, 2) := by decide +kernel
theorem dX6_tells_137 : decode cX6_tells 137 = .ok (.iload 5, 2) := by decide +kernel
theorem dX6_tells_139 : decode cX6_tells 139 = .ok (.invokevirtual 257, 3) := by decide +kernel
theorem dX6_tells_142 : decode cX6_tells 142 = .ok (.ireturn, 1) := by decide +kernel
theorem dX6_tells_143 : decode cX6_tells 143 = .ok (.aload_n 0, 1) := by decide +kernel
theorem dX6_tells_144 : decode cX6_tells 144 = .ok (.aload 4, 2) := by decide +kernel
theorem dX6_tells_146 : decode cX6_tells 146 = .ok (.invokevirtual 260, 3) := by decide +kernel
theorem dX6_tells_149 : decode cX6_tells 149 = .ok (.ireturn, 1) := by decide +kernel
theorem dX6_tells_150 : decode cX6_tells 150 = .ok (.aload_n 0, 1) := by decide +kernel
theorem dX6_tells_151 : decode cX6_tells 151 = .ok (.aload 4, 2) := by decide +kernel
theorem dX6_tells_153 : decode cX6_tells 153 = .ok (.invokevirtual 264, 3) := by decide +kernel
theorem dX6_tells_156 : decode cX6_tells 156 = .ok (.ireturn, 1) := by decide +kernel
theorem dX6_tells_157 : decode cX6_tells 157 = .ok (.aload_n 0, 1) := by decide +kernel
theorem dX6_tells_158 : decode cX6_tells 158 = .ok (.aload 4, 2) := by decide +kernel
theorem dX6_tells_160 : decode cX6_tells 160 = .ok (.iload 5, 2) := by decide +kernel
theorem dX6_tells_162 : decode cX6_tells 162 = .ok (.invokevirtual 267, 3) := by decide +kernel
theorem dX6_tells_165 : decode cX6_tells 165 = .ok (.ireturn, 1) := by decide +kernel
theorem dX6_tells_166 : decode cX6_tells 166 = .ok (.aload_n 0, 1) := by decide +kernel
theorem dX6_tells_167 : decode cX6_tells 167 = .ok (.aload 4, 2) := by decide +kernel
theorem dX6_tells_169 : decode cX6_tells 169 = .ok (.iload 5, 2) := by decide +kernel
theorem dX6_tells_171 : decode cX6_tells 171 = .ok (.invokevirtual 270, 3) := by decide +kernel
theorem dX6_tells_174 : decode cX6_tells 174 = .ok (.ireturn, 1) := by decide +kernel
theorem dX6_tells_175 : decode cX6_tells 175 = .ok (.aload_n 0, 1) := by decide +kernel
theorem dX6_tells_176 : decode cX6_tells 176 = .ok (.aload 4, 2) := by decide +kernel
theorem dX6_tells_178 : decode cX6_tells 178 = .ok (.invokevirtual 273, 3) := by decide +kernel
theorem dX6_tells_181 : decode cX6_tells 181 = .ok (.ireturn, 1) := by decide +kernel
theorem dX6_firstOtherwise_0 : decode cX6_firstOtherwise 0 = .ok (.iload_n 2, 1) := by decide +kernel
theorem dX6_firstOtherwise_1 : decode cX6_firstOtherwise 1 = .ok (.istore_n 3, 1) := by decide +kernel
theorem dX6_firstOtherwise_2 : decode cX6_firstOtherwise 2 = .ok (.iconst 0, 1) := by decide +kernel
theorem dX6_firstOtherwise_3 : decode cX6_firstOtherwise 3 = .ok (.istore 4, 2) := by decide +kernel
theorem dX6_firstOtherwise_5 : decode cX6_firstOtherwise 5 = .ok (.iload 4, 2) := by decide +kernel
theorem dX6_firstOtherwise_7 : decode cX6_firstOtherwise 7 = .ok (.aload_n 1, 1) := by decide +kernel
theorem dX6_firstOtherwise_8 : decode cX6_firstOtherwise 8 = .ok (.getfield 276, 3) := by decide +kernel
theorem dX6_firstOtherwise_11 : decode cX6_firstOtherwise 11 = .ok (.if_icmp .ge 38, 3) := by decide +kernel
theorem dX6_firstOtherwise_14 : decode cX6_firstOtherwise 14 = .ok (.aload_n 0, 1) := by decide +kernel
theorem dX6_firstOtherwise_15 : decode cX6_firstOtherwise 15 = .ok (.getfield 38, 3) := by decide +kernel
theorem dX6_firstOtherwise_18 : decode cX6_firstOtherwise 18 = .ok (.iload_n 3, 1) := by decide +kernel
theorem dX6_firstOtherwise_19 : decode cX6_firstOtherwise 19 = .ok (.invokevirtual 138, 3) := by decide +kernel
theorem dX6_firstOtherwise_22 : decode cX6_firstOtherwise 22 = .ok (.aload_n 1, 1) := by decide +kernel
theorem dX6_firstOtherwise_23 : decode cX6_firstOtherwise 23 = .ok (.iload 4, 2) := by decide +kernel
theorem dX6_firstOtherwise_25 : decode cX6_firstOtherwise 25 = .ok (.invokevirtual 277, 3) := by decide +kernel
theorem dX6_firstOtherwise_28 : decode cX6_firstOtherwise 28 = .ok (.if_icmp .eq 6, 3) := by decide +kernel
theorem dX6_firstOtherwise_31 : decode cX6_firstOtherwise 31 = .ok (.iload 4, 2) := by decide +kernel
theorem dX6_firstOtherwise_33 : decode cX6_firstOtherwise 33 = .ok (.ireturn, 1) := by decide +kernel
theorem dX6_firstOtherwise_34 : decode cX6_firstOtherwise 34 = .ok (.aload_n 0, 1) := by decide +kernel
theorem dX6_firstOtherwise_35 : decode cX6_firstOtherwise 35 = .ok (.getfield 38, 3) := by decide +kernel
theorem dX6_firstOtherwise_38 : decode cX6_firstOtherwise 38 = .ok (.iload_n 3, 1) := by decide +kernel
theorem dX6_firstOtherwise_39 : decode cX6_firstOtherwise 39 = .ok (.invokevirtual 159, 3) := by decide +kernel
theorem dX6_firstOtherwise_42 : decode cX6_firstOtherwise 42 = .ok (.istore_n 3, 1) := by decide +kernel
theorem dX6_firstOtherwise_43 : decode cX6_firstOtherwise 43 = .ok (.iinc 4 1, 3) := by decide +kernel
theorem dX6_firstOtherwise_46 : decode cX6_firstOtherwise 46 = .ok (.goto (-41), 3) := by decide +kernel
theorem dX6_firstOtherwise_49 : decode cX6_firstOtherwise 49 = .ok (.iconst (-1), 1) := by decide +kernel
theorem dX6_firstOtherwise_50 : decode cX6_firstOtherwise 50 = .ok (.ireturn, 1) := by decide +kernel
theorem dX6_fittingKinds_0 : decode cX6_fittingKinds 0 = .ok (.iconst 0, 1) := by decide +kernel
theorem dX6_fittingKinds_1 : decode cX6_fittingKinds 1 = .ok (.istore_n 3, 1) := by decide +kernel
theorem dX6_fittingKinds_2 : decode cX6_fittingKinds 2 = .ok (.iconst 0, 1) := by decide +kernel
theorem dX6_fittingKinds_3 : decode cX6_fittingKinds 3 = .ok (.istore 4, 2) := by decide +kernel
theorem dX6_fittingKinds_5 : decode cX6_fittingKinds 5 = .ok (.iload 4, 2) := by decide +kernel
theorem dX6_fittingKinds_7 : decode cX6_fittingKinds 7 = .ok (.bipush 6, 2) := by decide +kernel
theorem dX6_fittingKinds_9 : decode cX6_fittingKinds 9 = .ok (.if_icmp .ge 39, 3) := by decide +kernel
theorem dX6_fittingKinds_12 : decode cX6_fittingKinds 12 = .ok (.aload_n 0, 1) := by decide +kernel
theorem dX6_fittingKinds_13 : decode cX6_fittingKinds 13 = .ok (.getfield 38, 3) := by decide +kernel
theorem dX6_fittingKinds_16 : decode cX6_fittingKinds 16 = .ok (.iload 4, 2) := by decide +kernel
theorem dX6_fittingKinds_18 : decode cX6_fittingKinds 18 = .ok (.putfield 280, 3) := by decide +kernel
theorem dX6_fittingKinds_21 : decode cX6_fittingKinds 21 = .ok (.iload_n 3, 1) := by decide +kernel
theorem dX6_fittingKinds_22 : decode cX6_fittingKinds 22 = .ok (.aload_n 0, 1) := by decide +kernel
theorem dX6_fittingKinds_23 : decode cX6_fittingKinds 23 = .ok (.aload_n 1, 1) := by decide +kernel
theorem dX6_fittingKinds_24 : decode cX6_fittingKinds 24 = .ok (.iload_n 2, 1) := by decide +kernel
theorem dX6_fittingKinds_25 : decode cX6_fittingKinds 25 = .ok (.invokevirtual 250, 3) := by decide +kernel
theorem dX6_fittingKinds_28 : decode cX6_fittingKinds 28 = .ok (.iconst (-1), 1) := by decide +kernel
theorem dX6_fittingKinds_29 : decode cX6_fittingKinds 29 = .ok (.if_icmp .ne 10, 3) := by decide +kernel
theorem dX6_fittingKinds_32 : decode cX6_fittingKinds 32 = .ok (.iconst 1, 1) := by decide +kernel
theorem dX6_fittingKinds_33 : decode cX6_fittingKinds 33 = .ok (.iload 4, 2) := by decide +kernel
theorem dX6_fittingKinds_35 : decode cX6_fittingKinds 35 = .ok (.ishl, 1) := by decide +kernel
theorem dX6_fittingKinds_36 : decode cX6_fittingKinds 36 = .ok (.goto 4, 3) := by decide +kernel
theorem dX6_fittingKinds_39 : decode cX6_fittingKinds 39 = .ok (.iconst 0, 1) := by decide +kernel
theorem dX6_fittingKinds_40 : decode cX6_fittingKinds 40 = .ok (.ior, 1) := by decide +kernel
theorem dX6_fittingKinds_41 : decode cX6_fittingKinds 41 = .ok (.istore_n 3, 1) := by decide +kernel
theorem dX6_fittingKinds_42 : decode cX6_fittingKinds 42 = .ok (.iinc 4 1, 3) := by decide +kernel
theorem dX6_fittingKinds_45 : decode cX6_fittingKinds 45 = .ok (.goto (-40), 3) := by decide +kernel
theorem dX6_fittingKinds_48 : decode cX6_fittingKinds 48 = .ok (.iload_n 3, 1) := by decide +kernel
theorem dX6_fittingKinds_49 : decode cX6_fittingKinds 49 = .ok (.ireturn, 1) := by decide +kernel
theorem dX6_fittingNumbers_0 : decode cX6_fittingNumbers 0 = .ok (.iconst 0, 1) := by decide +kernel
theorem dX6_fittingNumbers_1 : decode cX6_fittingNumbers 1 = .ok (.istore_n 3, 1) := by decide +kernel
theorem dX6_fittingNumbers_2 : decode cX6_fittingNumbers 2 = .ok (.iconst 0, 1) := by decide +kernel
theorem dX6_fittingNumbers_3 : decode cX6_fittingNumbers 3 = .ok (.istore 4, 2) := by decide +kernel
theorem dX6_fittingNumbers_5 : decode cX6_fittingNumbers 5 = .ok (.iload 4, 2) := by decide +kernel
theorem dX6_fittingNumbers_7 : decode cX6_fittingNumbers 7 = .ok (.bipush 10, 2) := by decide +kernel
theorem dX6_fittingNumbers_9 : decode cX6_fittingNumbers 9 = .ok (.if_icmp .ge 39, 3) := by decide +kernel
theorem dX6_fittingNumbers_12 : decode cX6_fittingNumbers 12 = .ok (.aload_n 0, 1) := by decide +kernel
theorem dX6_fittingNumbers_13 : decode cX6_fittingNumbers 13 = .ok (.getfield 38, 3) := by decide +kernel
theorem dX6_fittingNumbers_16 : decode cX6_fittingNumbers 16 = .ok (.iload 4, 2) := by decide +kernel
theorem dX6_fittingNumbers_18 : decode cX6_fittingNumbers 18 = .ok (.invokevirtual 283, 3) := by decide +kernel
theorem dX6_fittingNumbers_21 : decode cX6_fittingNumbers 21 = .ok (.iload_n 3, 1) := by decide +kernel
theorem dX6_fittingNumbers_22 : decode cX6_fittingNumbers 22 = .ok (.aload_n 0, 1) := by decide +kernel
theorem dX6_fittingNumbers_23 : decode cX6_fittingNumbers 23 = .ok (.aload_n 1, 1) := by decide +kernel
theorem dX6_fittingNumbers_24 : decode cX6_fittingNumbers 24 = .ok (.iload_n 2, 1) := by decide +kernel
theorem dX6_fittingNumbers_25 : decode cX6_fittingNumbers 25 = .ok (.invokevirtual 250, 3) := by decide +kernel
theorem dX6_fittingNumbers_28 : decode cX6_fittingNumbers 28 = .ok (.iconst (-1), 1) := by decide +kernel
theorem dX6_fittingNumbers_29 : decode cX6_fittingNumbers 29 = .ok (.if_icmp .ne 10, 3) := by decide +kernel
theorem dX6_fittingNumbers_32 : decode cX6_fittingNumbers 32 = .ok (.iconst 1, 1) := by decide +kernel
theorem dX6_fittingNumbers_33 : decode cX6_fittingNumbers 33 = .ok (.iload 4, 2) := by decide +kernel
theorem dX6_fittingNumbers_35 : decode cX6_fittingNumbers 35 = .ok (.ishl, 1) := by decide +kernel
theorem dX6_fittingNumbers_36 : decode cX6_fittingNumbers 36 = .ok (.goto 4, 3) := by decide +kernel
theorem dX6_fittingNumbers_39 : decode cX6_fittingNumbers 39 = .ok (.iconst 0, 1) := by decide +kernel
theorem dX6_fittingNumbers_40 : decode cX6_fittingNumbers 40 = .ok (.ior, 1) := by decide +kernel
theorem dX6_fittingNumbers_41 : decode cX6_fittingNumbers 41 = .ok (.istore_n 3, 1) := by decide +kernel
theorem dX6_fittingNumbers_42 : decode cX6_fittingNumbers 42 = .ok (.iinc 4 1, 3) := by decide +kernel
theorem dX6_fittingNumbers_45 : decode cX6_fittingNumbers 45 = .ok (.goto (-40), 3) := by decide +kernel
theorem dX6_fittingNumbers_48 : decode cX6_fittingNumbers 48 = .ok (.iload_n 3, 1) := by decide +kernel
theorem dX6_fittingNumbers_49 : decode cX6_fittingNumbers 49 = .ok (.ireturn, 1) := by decide +kernel
theorem dX6_fittingAngers_0 : decode cX6_fittingAngers 0 = .ok (.iconst 0, 1) := by decide +kernel
theorem dX6_fittingAngers_1 : decode cX6_fittingAngers 1 = .ok (.istore_n 2, 1) := by decide +kernel
theorem dX6_fittingAngers_2 : decode cX6_fittingAngers 2 = .ok (.iconst 0, 1) := by decide +kernel
theorem dX6_fittingAngers_3 : decode cX6_fittingAngers 3 = .ok (.istore_n 3, 1) := by decide +kernel
theorem dX6_fittingAngers_4 : decode cX6_fittingAngers 4 = .ok (.iload_n 3, 1) := by decide +kernel
theorem dX6_fittingAngers_5 : decode cX6_fittingAngers 5 = .ok (.bipush 100, 2) := by decide +kernel
theorem dX6_fittingAngers_7 : decode cX6_fittingAngers 7 = .ok (.if_icmp .ge 27, 3) := by decide +kernel
theorem dX6_fittingAngers_10 : decode cX6_fittingAngers 10 = .ok (.iload_n 2, 1) := by decide +kernel
theorem dX6_fittingAngers_11 : decode cX6_fittingAngers 11 = .ok (.aload_n 0, 1) := by decide +kernel
theorem dX6_fittingAngers_12 : decode cX6_fittingAngers 12 = .ok (.aload_n 1, 1) := by decide +kernel
theorem dX6_fittingAngers_13 : decode cX6_fittingAngers 13 = .ok (.iload_n 3, 1) := by decide +kernel
theorem dX6_fittingAngers_14 : decode cX6_fittingAngers 14 = .ok (.invokevirtual 250, 3) := by decide +kernel
theorem dX6_fittingAngers_17 : decode cX6_fittingAngers 17 = .ok (.iconst (-1), 1) := by decide +kernel
theorem dX6_fittingAngers_18 : decode cX6_fittingAngers 18 = .ok (.if_icmp .ne 7, 3) := by decide +kernel
theorem dX6_fittingAngers_21 : decode cX6_fittingAngers 21 = .ok (.iconst 1, 1) := by decide +kernel
theorem dX6_fittingAngers_22 : decode cX6_fittingAngers 22 = .ok (.goto 4, 3) := by decide +kernel
theorem dX6_fittingAngers_25 : decode cX6_fittingAngers 25 = .ok (.iconst 0, 1) := by decide +kernel
theorem dX6_fittingAngers_26 : decode cX6_fittingAngers 26 = .ok (.iadd, 1) := by decide +kernel
theorem dX6_fittingAngers_27 : decode cX6_fittingAngers 27 = .ok (.istore_n 2, 1) := by decide +kernel
theorem dX6_fittingAngers_28 : decode cX6_fittingAngers 28 = .ok (.iinc 3 1, 3) := by decide +kernel
theorem dX6_fittingAngers_31 : decode cX6_fittingAngers 31 = .ok (.goto (-27), 3) := by decide +kernel
theorem dX6_fittingAngers_34 : decode cX6_fittingAngers 34 = .ok (.iload_n 2, 1) := by decide +kernel
theorem dX6_fittingAngers_35 : decode cX6_fittingAngers 35 = .ok (.ireturn, 1) := by decide +kernel
theorem dX6_leastFittingAnger_0 : decode cX6_leastFittingAnger 0 = .ok (.iconst 0, 1) := by decide +kernel
theorem dX6_leastFittingAnger_1 : decode cX6_leastFittingAnger 1 = .ok (.istore_n 2, 1) := by decide +kernel
theorem dX6_leastFittingAnger_2 : decode cX6_leastFittingAnger 2 = .ok (.iload_n 2, 1) := by decide +kernel
theorem dX6_leastFittingAnger_3 : decode cX6_leastFittingAnger 3 = .ok (.bipush 100, 2) := by decide +kernel
theorem dX6_leastFittingAnger_5 : decode cX6_leastFittingAnger 5 = .ok (.if_icmp .ge 21, 3) := by decide +kernel
theorem dX6_leastFittingAnger_8 : decode cX6_leastFittingAnger 8 = .ok (.aload_n 0, 1) := by decide +kernel
theorem dX6_leastFittingAnger_9 : decode cX6_leastFittingAnger 9 = .ok (.aload_n 1, 1) := by decide +kernel
theorem dX6_leastFittingAnger_10 : decode cX6_leastFittingAnger 10 = .ok (.iload_n 2, 1) := by decide +kernel
theorem dX6_leastFittingAnger_11 : decode cX6_leastFittingAnger 11 = .ok (.invokevirtual 250, 3) := by decide +kernel
theorem dX6_leastFittingAnger_14 : decode cX6_leastFittingAnger 14 = .ok (.iconst (-1), 1) := by decide +kernel
theorem dX6_leastFittingAnger_15 : decode cX6_leastFittingAnger 15 = .ok (.if_icmp .ne 5, 3) := by decide +kernel
theorem dX6_leastFittingAnger_18 : decode cX6_leastFittingAnger 18 = .ok (.iload_n 2, 1) := by decide +kernel
theorem dX6_leastFittingAnger_19 : decode cX6_leastFittingAnger 19 = .ok (.ireturn, 1) := by decide +kernel
theorem dX6_leastFittingAnger_20 : decode cX6_leastFittingAnger 20 = .ok (.iinc 2 1, 3) := by decide +kernel
theorem dX6_leastFittingAnger_23 : decode cX6_leastFittingAnger 23 = .ok (.goto (-21), 3) := by decide +kernel
theorem dX6_leastFittingAnger_26 : decode cX6_leastFittingAnger 26 = .ok (.iconst (-1), 1) := by decide +kernel
theorem dX6_leastFittingAnger_27 : decode cX6_leastFittingAnger 27 = .ok (.ireturn, 1) := by decide +kernel
theorem dX6_fittingTexts_0 : decode cX6_fittingTexts 0 = .ok (.iconst 0, 1) := by decide +kernel
theorem dX6_fittingTexts_1 : decode cX6_fittingTexts 1 = .ok (.istore_n 3, 1) := by decide +kernel
theorem dX6_fittingTexts_2 : decode cX6_fittingTexts 2 = .ok (.iconst 0, 1) := by decide +kernel
theorem dX6_fittingTexts_3 : decode cX6_fittingTexts 3 = .ok (.istore 4, 2) := by decide +kernel
theorem dX6_fittingTexts_5 : decode cX6_fittingTexts 5 = .ok (.iload 4, 2) := by decide +kernel
theorem dX6_fittingTexts_7 : decode cX6_fittingTexts 7 = .ok (.aload_n 0, 1) := by decide +kernel
theorem dX6_fittingTexts_8 : decode cX6_fittingTexts 8 = .ok (.getfield 22, 3) := by decide +kernel
theorem dX6_fittingTexts_11 : decode cX6_fittingTexts 11 = .ok (.getfield 145, 3) := by decide +kernel
theorem dX6_fittingTexts_14 : decode cX6_fittingTexts 14 = .ok (.if_icmp .ge 39, 3) := by decide +kernel
theorem dX6_fittingTexts_17 : decode cX6_fittingTexts 17 = .ok (.aload_n 0, 1) := by decide +kernel
theorem dX6_fittingTexts_18 : decode cX6_fittingTexts 18 = .ok (.getfield 38, 3) := by decide +kernel
theorem dX6_fittingTexts_21 : decode cX6_fittingTexts 21 = .ok (.iload 4, 2) := by decide +kernel
theorem dX6_fittingTexts_23 : decode cX6_fittingTexts 23 = .ok (.putfield 287, 3) := by decide +kernel
theorem dX6_fittingTexts_26 : decode cX6_fittingTexts 26 = .ok (.iload_n 3, 1) := by decide +kernel
theorem dX6_fittingTexts_27 : decode cX6_fittingTexts 27 = .ok (.aload_n 0, 1) := by decide +kernel
theorem dX6_fittingTexts_28 : decode cX6_fittingTexts 28 = .ok (.aload_n 1, 1) := by decide +kernel
theorem dX6_fittingTexts_29 : decode cX6_fittingTexts 29 = .ok (.iload_n 2, 1) := by decide +kernel
theorem dX6_fittingTexts_30 : decode cX6_fittingTexts 30 = .ok (.invokevirtual 250, 3) := by decide +kernel
theorem dX6_fittingTexts_33 : decode cX6_fittingTexts 33 = .ok (.iconst (-1), 1) := by decide +kernel
theorem dX6_fittingTexts_34 : decode cX6_fittingTexts 34 = .ok (.if_icmp .ne 10, 3) := by decide +kernel
theorem dX6_fittingTexts_37 : decode cX6_fittingTexts 37 = .ok (.iconst 1, 1) := by decide +kernel
theorem dX6_fittingTexts_38 : decode cX6_fittingTexts 38 = .ok (.iload 4, 2) := by decide +kernel
theorem dX6_fittingTexts_40 : decode cX6_fittingTexts 40 = .ok (.ishl, 1) := by decide +kernel
theorem dX6_fittingTexts_41 : decode cX6_fittingTexts 41 = .ok (.goto 4, 3) := by decide +kernel
theorem dX6_fittingTexts_44 : decode cX6_fittingTexts 44 = .ok (.iconst 0, 1) := by decide +kernel
theorem dX6_fittingTexts_45 : decode cX6_fittingTexts 45 = .ok (.ior, 1) := by decide +kernel
theorem dX6_fittingTexts_46 : decode cX6_fittingTexts 46 = .ok (.istore_n 3, 1) := by decide +kernel
theorem dX6_fittingTexts_47 : decode cX6_fittingTexts 47 = .ok (.iinc 4 1, 3) := by decide +kernel
theorem dX6_fittingTexts_50 : decode cX6_fittingTexts 50 = .ok (.goto (-45), 3) := by decide +kernel
theorem dX6_fittingTexts_53 : decode cX6_fittingTexts 53 = .ok (.iload_n 3, 1) := by decide +kernel
theorem dX6_fittingTexts_54 : decode cX6_fittingTexts 54 = .ok (.ireturn, 1) := by decide +kernel
theorem dX6_fittingWords_0 : decode cX6_fittingWords 0 = .ok (.iconst 0, 1) := by decide +kernel
theorem dX6_fittingWords_1 : decode cX6_fittingWords 1 = .ok (.istore_n 3, 1) := by decide +kernel
theorem dX6_fittingWords_2 : decode cX6_fittingWords 2 = .ok (.iconst 0, 1) := by decide +kernel
theorem dX6_fittingWords_3 : decode cX6_fittingWords 3 = .ok (.istore 4, 2) := by decide +kernel
theorem dX6_fittingWords_5 : decode cX6_fittingWords 5 = .ok (.iload 4, 2) := by decide +kernel
theorem dX6_fittingWords_7 : decode cX6_fittingWords 7 = .ok (.bipush 6, 2) := by decide +kernel
theorem dX6_fittingWords_9 : decode cX6_fittingWords 9 = .ok (.if_icmp .ge 39, 3) := by decide +kernel
theorem dX6_fittingWords_12 : decode cX6_fittingWords 12 = .ok (.iload_n 3, 1) := by decide +kernel
theorem dX6_fittingWords_13 : decode cX6_fittingWords 13 = .ok (.aload_n 0, 1) := by decide +kernel
theorem dX6_fittingWords_14 : decode cX6_fittingWords 14 = .ok (.aload_n 1, 1) := by decide +kernel
theorem dX6_fittingWords_15 : decode cX6_fittingWords 15 = .ok (.aload_n 0, 1) := by decide +kernel
theorem dX6_fittingWords_16 : decode cX6_fittingWords 16 = .ok (.getfield 38, 3) := by decide +kernel
theorem dX6_fittingWords_19 : decode cX6_fittingWords 19 = .ok (.iload_n 2, 1) := by decide +kernel
theorem dX6_fittingWords_20 : decode cX6_fittingWords 20 = .ok (.iload 4, 2) := by decide +kernel
theorem dX6_fittingWords_22 : decode cX6_fittingWords 22 = .ok (.invokevirtual 149, 3) := by decide +kernel
theorem dX6_fittingWords_25 : decode cX6_fittingWords 25 = .ok (.invokevirtual 250, 3) := by decide +kernel
theorem dX6_fittingWords_28 : decode cX6_fittingWords 28 = .ok (.iconst (-1), 1) := by decide +kernel
theorem dX6_fittingWords_29 : decode cX6_fittingWords 29 = .ok (.if_icmp .ne 10, 3) := by decide +kernel
theorem dX6_fittingWords_32 : decode cX6_fittingWords 32 = .ok (.iconst 1, 1) := by decide +kernel
theorem dX6_fittingWords_33 : decode cX6_fittingWords 33 = .ok (.iload 4, 2) := by decide +kernel
theorem dX6_fittingWords_35 : decode cX6_fittingWords 35 = .ok (.ishl, 1) := by decide +kernel
theorem dX6_fittingWords_36 : decode cX6_fittingWords 36 = .ok (.goto 4, 3) := by decide +kernel
theorem dX6_fittingWords_39 : decode cX6_fittingWords 39 = .ok (.iconst 0, 1) := by decide +kernel
theorem dX6_fittingWords_40 : decode cX6_fittingWords 40 = .ok (.ior, 1) := by decide +kernel
theorem dX6_fittingWords_41 : decode cX6_fittingWords 41 = .ok (.istore_n 3, 1) := by decide +kernel
theorem dX6_fittingWords_42 : decode cX6_fittingWords 42 = .ok (.iinc 4 1, 3) := by decide +kernel
theorem dX6_fittingWords_45 : decode cX6_fittingWords 45 = .ok (.goto (-40), 3) := by decide +kernel
theorem dX6_fittingWords_48 : decode cX6_fittingWords 48 = .ok (.iload_n 3, 1) := by decide +kernel
theorem dX6_fittingWords_49 : decode cX6_fittingWords 49 = .ok (.ireturn, 1) := by decide +kernel
theorem dX6_fittingPairs_0 : decode cX6_fittingPairs 0 = .ok (.iconst 0, 1) := by decide +kernel
theorem dX6_fittingPairs_1 : decode cX6_fittingPairs 1 = .ok (.istore_n 2, 1) := by decide +kernel
theorem dX6_fittingPairs_2 : decode cX6_fittingPairs 2 = .ok (.iconst 0, 1) := by decide +kernel
theorem dX6_fittingPairs_3 : decode cX6_fittingPairs 3 = .ok (.istore_n 3, 1) := by decide +kernel
theorem dX6_fittingPairs_4 : decode cX6_fittingPairs 4 = .ok (.iload_n 3, 1) := by decide +kernel
theorem dX6_fittingPairs_5 : decode cX6_fittingPairs 5 = .ok (.aload_n 0, 1) := by decide +kernel
theorem dX6_fittingPairs_6 : decode cX6_fittingPairs 6 = .ok (.getfield 10, 3) := by decide +kernel
theorem dX6_fittingPairs_9 : decode cX6_fittingPairs 9 = .ok (.getfield 93, 3) := by decide +kernel
theorem dX6_fittingPairs_12 : decode cX6_fittingPairs 12 = .ok (.if_icmp .ge 48, 3) := by decide +kernel
theorem dX6_fittingPairs_15 : decode cX6_fittingPairs 15 = .ok (.aload_n 0, 1) := by decide +kernel
theorem dX6_fittingPairs_16 : decode cX6_fittingPairs 16 = .ok (.getfield 38, 3) := by decide +kernel
theorem dX6_fittingPairs_19 : decode cX6_fittingPairs 19 = .ok (.aload_n 0, 1) := by decide +kernel
theorem dX6_fittingPairs_20 : decode cX6_fittingPairs 20 = .ok (.getfield 10, 3) := by decide +kernel
theorem dX6_fittingPairs_23 : decode cX6_fittingPairs 23 = .ok (.iload_n 3, 1) := by decide +kernel
theorem dX6_fittingPairs_24 : decode cX6_fittingPairs 24 = .ok (.invokevirtual 128, 3) := by decide +kernel
theorem dX6_fittingPairs_27 : decode cX6_fittingPairs 27 = .ok (.iload_n 2, 1) := by decide +kernel
theorem dX6_fittingPairs_28 : decode cX6_fittingPairs 28 = .ok (.aload_n 0, 1) := by decide +kernel
theorem dX6_fittingPairs_29 : decode cX6_fittingPairs 29 = .ok (.aload_n 1, 1) := by decide +kernel
theorem dX6_fittingPairs_30 : decode cX6_fittingPairs 30 = .ok (.aload_n 0, 1) := by decide +kernel
theorem dX6_fittingPairs_31 : decode cX6_fittingPairs 31 = .ok (.getfield 10, 3) := by decide +kernel
theorem dX6_fittingPairs_34 : decode cX6_fittingPairs 34 = .ok (.iload_n 3, 1) := by decide +kernel
theorem dX6_fittingPairs_35 : decode cX6_fittingPairs 35 = .ok (.invokevirtual 132, 3) := by decide +kernel
theorem dX6_fittingPairs_38 : decode cX6_fittingPairs 38 = .ok (.invokevirtual 250, 3) := by decide +kernel
theorem dX6_fittingPairs_41 : decode cX6_fittingPairs 41 = .ok (.iconst (-1), 1) := by decide +kernel
theorem dX6_fittingPairs_42 : decode cX6_fittingPairs 42 = .ok (.if_icmp .ne 9, 3) := by decide +kernel
theorem dX6_fittingPairs_45 : decode cX6_fittingPairs 45 = .ok (.iconst 1, 1) := by decide +kernel
theorem dX6_fittingPairs_46 : decode cX6_fittingPairs 46 = .ok (.iload_n 3, 1) := by decide +kernel
theorem dX6_fittingPairs_47 : decode cX6_fittingPairs 47 = .ok (.ishl, 1) := by decide +kernel
theorem dX6_fittingPairs_48 : decode cX6_fittingPairs 48 = .ok (.goto 4, 3) := by decide +kernel
theorem dX6_fittingPairs_51 : decode cX6_fittingPairs 51 = .ok (.iconst 0, 1) := by decide +kernel
theorem dX6_fittingPairs_52 : decode cX6_fittingPairs 52 = .ok (.ior, 1) := by decide +kernel
theorem dX6_fittingPairs_53 : decode cX6_fittingPairs 53 = .ok (.istore_n 2, 1) := by decide +kernel
theorem dX6_fittingPairs_54 : decode cX6_fittingPairs 54 = .ok (.iinc 3 1, 3) := by decide +kernel
theorem dX6_fittingPairs_57 : decode cX6_fittingPairs 57 = .ok (.goto (-53), 3) := by decide +kernel
theorem dX6_fittingPairs_60 : decode cX6_fittingPairs 60 = .ok (.iload_n 2, 1) := by decide +kernel
theorem dX6_fittingPairs_61 : decode cX6_fittingPairs 61 = .ok (.ireturn, 1) := by decide +kernel
theorem dX6_film_0 : decode cX6_film 0 = .ok (.iload_n 1, 1) := by decide +kernel
theorem dX6_film_1 : decode cX6_film 1 = .ok (.iconst 4, 1) := by decide +kernel
theorem dX6_film_2 : decode cX6_film 2 = .ok (.invokestatic 100, 3) := by decide +kernel
theorem dX6_film_5 : decode cX6_film 5 = .ok (.ifCond .eq 23, 3) := by decide +kernel
theorem dX6_film_8 : decode cX6_film 8 = .ok (.aload_n 0, 1) := by decide +kernel
theorem dX6_film_9 : decode cX6_film 9 = .ok (.getfield 10, 3) := by decide +kernel
theorem dX6_film_12 : decode cX6_film 12 = .ok (.iload_n 2, 1) := by decide +kernel
theorem dX6_film_13 : decode cX6_film 13 = .ok (.invokevirtual 125, 3) := by decide +kernel
theorem dX6_film_16 : decode cX6_film 16 = .ok (.ifCond .eq 12, 3) := by decide +kernel
theorem dX6_film_19 : decode cX6_film 19 = .ok (.iload_n 3, 1) := by decide +kernel
theorem dX6_film_20 : decode cX6_film 20 = .ok (.bipush 41, 2) := by decide +kernel
theorem dX6_film_22 : decode cX6_film 22 = .ok (.invokestatic 100, 3) := by decide +kernel
theorem dX6_film_25 : decode cX6_film 25 = .ok (.ifCond .ne 6, 3) := by decide +kernel
theorem dX6_film_28 : decode cX6_film 28 = .ok (.bipush (-2), 2) := by decide +kernel
theorem dX6_film_30 : decode cX6_film 30 = .ok (.ireturn, 1) := by decide +kernel
theorem dX6_film_31 : decode cX6_film 31 = .ok (.aload_n 0, 1) := by decide +kernel
theorem dX6_film_32 : decode cX6_film 32 = .ok (.getfield 38, 3) := by decide +kernel
theorem dX6_film_35 : decode cX6_film 35 = .ok (.aload_n 0, 1) := by decide +kernel
theorem dX6_film_36 : decode cX6_film 36 = .ok (.getfield 10, 3) := by decide +kernel
theorem dX6_film_39 : decode cX6_film 39 = .ok (.iload_n 2, 1) := by decide +kernel
theorem dX6_film_40 : decode cX6_film 40 = .ok (.invokevirtual 128, 3) := by decide +kernel
theorem dX6_film_43 : decode cX6_film 43 = .ok (.aload_n 0, 1) := by decide +kernel
theorem dX6_film_44 : decode cX6_film 44 = .ok (.getfield 10, 3) := by decide +kernel
theorem dX6_film_47 : decode cX6_film 47 = .ok (.iload_n 2, 1) := by decide +kernel
theorem dX6_film_48 : decode cX6_film 48 = .ok (.invokevirtual 132, 3) := by decide +kernel
theorem dX6_film_51 : decode cX6_film 51 = .ok (.istore 4, 2) := by decide +kernel
theorem dX6_film_53 : decode cX6_film 53 = .ok (.aload_n 0, 1) := by decide +kernel
theorem dX6_film_54 : decode cX6_film 54 = .ok (.getfield 52, 3) := by decide +kernel
theorem dX6_film_57 : decode cX6_film 57 = .ok (.iload_n 1, 1) := by decide +kernel
theorem dX6_film_58 : decode cX6_film 58 = .ok (.aaload, 1) := by decide +kernel
theorem dX6_film_59 : decode cX6_film 59 = .ok (.astore 5, 2) := by decide +kernel
theorem dX6_film_61 : decode cX6_film 61 = .ok (.aload 5, 2) := by decide +kernel
theorem dX6_film_63 : decode cX6_film 63 = .ok (.iconst 0, 1) := by decide +kernel
theorem dX6_film_64 : decode cX6_film 64 = .ok (.iload_n 3, 1) := by decide +kernel
theorem dX6_film_65 : decode cX6_film 65 = .ok (.invokevirtual 288, 3) := by decide +kernel
theorem dX6_film_68 : decode cX6_film 68 = .ok (.iconst 0, 1) := by decide +kernel
theorem dX6_film_69 : decode cX6_film 69 = .ok (.istore 6, 2) := by decide +kernel
theorem dX6_film_71 : decode cX6_film 71 = .ok (.iload 6, 2) := by decide +kernel
theorem dX6_film_73 : decode cX6_film 73 = .ok (.iload_n 3, 1) := by decide +kernel
theorem dX6_film_74 : decode cX6_film 74 = .ok (.if_icmp .ge 37, 3) := by decide +kernel
theorem dX6_film_77 : decode cX6_film 77 = .ok (.aload 5, 2) := by decide +kernel
theorem dX6_film_79 : decode cX6_film 79 = .ok (.iload 6, 2) := by decide +kernel
theorem dX6_film_81 : decode cX6_film 81 = .ok (.aload_n 0, 1) := by decide +kernel
theorem dX6_film_82 : decode cX6_film 82 = .ok (.getfield 38, 3) := by decide +kernel
theorem dX6_film_85 : decode cX6_film 85 = .ok (.iload 4, 2) := by decide +kernel
theorem dX6_film_87 : decode cX6_film 87 = .ok (.invokevirtual 138, 3) := by decide +kernel
theorem dX6_film_90 : decode cX6_film 90 = .ok (.invokevirtual 291, 3) := by decide +kernel
theorem dX6_film_93 : decode cX6_film 93 = .ok (.pop, 1) := by decide +kernel
theorem dX6_film_94 : decode cX6_film 94 = .ok (.aload_n 0, 1) := by decide +kernel
theorem dX6_film_95 : decode cX6_film 95 = .ok (.getfield 38, 3) := by decide +kernel
theorem dX6_film_98 : decode cX6_film 98 = .ok (.iload 4, 2) := by decide +kernel
theorem dX6_film_100 : decode cX6_film 100 = .ok (.invokevirtual 159, 3) := by decide +kernel
theorem dX6_film_103 : decode cX6_film 103 = .ok (.istore 4, 2) := by decide +kernel
theorem dX6_film_105 : decode cX6_film 105 = .ok (.iinc 6 1, 3) := by decide +kernel
theorem dX6_film_108 : decode cX6_film 108 = .ok (.goto (-37), 3) := by decide +kernel
theorem dX6_film_111 : decode cX6_film 111 = .ok (.iload_n 3, 1) := by decide +kernel
theorem dX6_film_112 : decode cX6_film 112 = .ok (.ireturn, 1) := by decide +kernel
theorem dX6_drawn_0 : decode cX6_drawn 0 = .ok (.aload_n 0, 1) := by decide +kernel
theorem dX6_drawn_1 : decode cX6_drawn 1 = .ok (.getfield 10, 3) := by decide +kernel
theorem dX6_drawn_4 : decode cX6_drawn 4 = .ok (.iload_n 2, 1) := by decide +kernel
theorem dX6_drawn_5 : decode cX6_drawn 5 = .ok (.invokevirtual 125, 3) := by decide +kernel
theorem dX6_drawn_8 : decode cX6_drawn 8 = .ok (.ifCond .eq 12, 3) := by decide +kernel
theorem dX6_drawn_11 : decode cX6_drawn 11 = .ok (.iload_n 3, 1) := by decide +kernel
theorem dX6_drawn_12 : decode cX6_drawn 12 = .ok (.bipush 100, 2) := by decide +kernel
theorem dX6_drawn_14 : decode cX6_drawn 14 = .ok (.invokestatic 100, 3) := by decide +kernel
theorem dX6_drawn_17 : decode cX6_drawn 17 = .ok (.ifCond .ne 6, 3) := by decide +kernel
theorem dX6_drawn_20 : decode cX6_drawn 20 = .ok (.bipush (-2), 2) := by decide +kernel
theorem dX6_drawn_22 : decode cX6_drawn 22 = .ok (.ireturn, 1) := by decide +kernel
theorem dX6_drawn_23 : decode cX6_drawn 23 = .ok (.aload_n 0, 1) := by decide +kernel
theorem dX6_drawn_24 : decode cX6_drawn 24 = .ok (.getfield 38, 3) := by decide +kernel
theorem dX6_drawn_27 : decode cX6_drawn 27 = .ok (.aload_n 0, 1) := by decide +kernel
theorem dX6_drawn_28 : decode cX6_drawn 28 = .ok (.getfield 10, 3) := by decide +kernel
theorem dX6_drawn_31 : decode cX6_drawn 31 = .ok (.iload_n 2, 1) := by decide +kernel
theorem dX6_drawn_32 : decode cX6_drawn 32 = .ok (.invokevirtual 128, 3) := by decide +kernel
theorem dX6_drawn_35 : decode cX6_drawn 35 = .ok (.aload_n 0, 1) := by decide +kernel
theorem dX6_drawn_36 : decode cX6_drawn 36 = .ok (.iload_n 1, 1) := by decide +kernel
theorem dX6_drawn_37 : decode cX6_drawn 37 = .ok (.aload_n 0, 1) := by decide +kernel
theorem dX6_drawn_38 : decode cX6_drawn 38 = .ok (.getfield 10, 3) := by decide +kernel
theorem dX6_drawn_41 : decode cX6_drawn 41 = .ok (.iload_n 2, 1) := by decide +kernel
theorem dX6_drawn_42 : decode cX6_drawn 42 = .ok (.invokevirtual 132, 3) := by decide +kernel
theorem dX6_drawn_45 : decode cX6_drawn 45 = .ok (.iload_n 3, 1) := by decide +kernel
theorem dX6_drawn_46 : decode cX6_drawn 46 = .ok (.invokevirtual 293, 3) := by decide +kernel
theorem dX6_drawn_49 : decode cX6_drawn 49 = .ok (.ireturn, 1) := by decide +kernel
theorem dX6_farDrawn_0 : decode cX6_farDrawn 0 = .ok (.iload_n 1, 1) := by decide +kernel
theorem dX6_farDrawn_1 : decode cX6_farDrawn 1 = .ok (.istore 4, 2) := by decide +kernel
theorem dX6_farDrawn_3 : decode cX6_farDrawn 3 = .ok (.iload_n 2, 1) := by decide +kernel
theorem dX6_farDrawn_4 : decode cX6_farDrawn 4 = .ok (.istore 5, 2) := by decide +kernel
theorem dX6_farDrawn_6 : decode cX6_farDrawn 6 = .ok (.iconst 0, 1) := by decide +kernel
theorem dX6_farDrawn_7 : decode cX6_farDrawn 7 = .ok (.istore 6, 2) := by decide +kernel
theorem dX6_farDrawn_9 : decode cX6_farDrawn 9 = .ok (.iload 6, 2) := by decide +kernel
theorem dX6_farDrawn_11 : decode cX6_farDrawn 11 = .ok (.iload_n 3, 1) := by decide +kernel
theorem dX6_farDrawn_12 : decode cX6_farDrawn 12 = .ok (.if_icmp .ge 40, 3) := by decide +kernel
theorem dX6_farDrawn_15 : decode cX6_farDrawn 15 = .ok (.iload 4, 2) := by decide +kernel
theorem dX6_farDrawn_17 : decode cX6_farDrawn 17 = .ok (.ldc_w 296, 3) := by decide +kernel
theorem dX6_farDrawn_20 : decode cX6_farDrawn 20 = .ok (.imul, 1) := by decide +kernel
theorem dX6_farDrawn_21 : decode cX6_farDrawn 21 = .ok (.sipush 12345, 3) := by decide +kernel
theorem dX6_farDrawn_24 : decode cX6_farDrawn 24 = .ok (.iadd, 1) := by decide +kernel
theorem dX6_farDrawn_25 : decode cX6_farDrawn 25 = .ok (.istore 4, 2) := by decide +kernel
theorem dX6_farDrawn_27 : decode cX6_farDrawn 27 = .ok (.aload_n 0, 1) := by decide +kernel
theorem dX6_farDrawn_28 : decode cX6_farDrawn 28 = .ok (.getfield 38, 3) := by decide +kernel
theorem dX6_farDrawn_31 : decode cX6_farDrawn 31 = .ok (.iload 5, 2) := by decide +kernel
theorem dX6_farDrawn_33 : decode cX6_farDrawn 33 = .ok (.iload 4, 2) := by decide +kernel
theorem dX6_farDrawn_35 : decode cX6_farDrawn 35 = .ok (.bipush 9, 2) := by decide +kernel
theorem dX6_farDrawn_37 : decode cX6_farDrawn 37 = .ok (.iushr, 1) := by decide +kernel
theorem dX6_farDrawn_38 : decode cX6_farDrawn 38 = .ok (.bipush 6, 2) := by decide +kernel
theorem dX6_farDrawn_40 : decode cX6_farDrawn 40 = .ok (.irem, 1) := by decide +kernel
theorem dX6_farDrawn_41 : decode cX6_farDrawn 41 = .ok (.invokevirtual 149, 3) := by decide +kernel
theorem dX6_farDrawn_44 : decode cX6_farDrawn 44 = .ok (.istore 5, 2) := by decide +kernel
theorem dX6_farDrawn_46 : decode cX6_farDrawn 46 = .ok (.iinc 6 1, 3) := by decide +kernel
theorem dX6_farDrawn_49 : decode cX6_farDrawn 49 = .ok (.goto (-40), 3) := by decide +kernel
theorem dX6_farDrawn_52 : decode cX6_farDrawn 52 = .ok (.aload_n 0, 1) := by decide +kernel
theorem dX6_farDrawn_53 : decode cX6_farDrawn 53 = .ok (.getfield 38, 3) := by decide +kernel
theorem dX6_farDrawn_56 : decode cX6_farDrawn 56 = .ok (.iload 5, 2) := by decide +kernel
theorem dX6_farDrawn_58 : decode cX6_farDrawn 58 = .ok (.invokevirtual 138, 3) := by decide +kernel
theorem dX6_farDrawn_61 : decode cX6_farDrawn 61 = .ok (.ireturn, 1) := by decide +kernel
theorem dX6_chance_0 : decode cX6_chance 0 = .ok (.aload_n 0, 1) := by decide +kernel
theorem dX6_chance_1 : decode cX6_chance 1 = .ok (.getfield 10, 3) := by decide +kernel
theorem dX6_chance_4 : decode cX6_chance 4 = .ok (.iload_n 3, 1) := by decide +kernel
theorem dX6_chance_5 : decode cX6_chance 5 = .ok (.invokevirtual 125, 3) := by decide +kernel
theorem dX6_chance_8 : decode cX6_chance 8 = .ok (.ifCond .eq 33, 3) := by decide +kernel
theorem dX6_chance_11 : decode cX6_chance 11 = .ok (.iload_n 2, 1) := by decide +kernel
theorem dX6_chance_12 : decode cX6_chance 12 = .ok (.iconst 1, 1) := by decide +kernel
theorem dX6_chance_13 : decode cX6_chance 13 = .ok (.if_icmp .lt 28, 3) := by decide +kernel
theorem dX6_chance_16 : decode cX6_chance 16 = .ok (.iload_n 2, 1) := by decide +kernel
theorem dX6_chance_17 : decode cX6_chance 17 = .ok (.bipush 20, 2) := by decide +kernel
theorem dX6_chance_19 : decode cX6_chance 19 = .ok (.if_icmp .gt 22, 3) := by decide +kernel
theorem dX6_chance_22 : decode cX6_chance 22 = .ok (.iload 4, 2) := by decide +kernel
theorem dX6_chance_24 : decode cX6_chance 24 = .ok (.bipush 41, 2) := by decide +kernel
theorem dX6_chance_26 : decode cX6_chance 26 = .ok (.invokestatic 100, 3) := by decide +kernel
theorem dX6_chance_29 : decode cX6_chance 29 = .ok (.ifCond .eq 12, 3) := by decide +kernel
theorem dX6_chance_32 : decode cX6_chance 32 = .ok (.iload 5, 2) := by decide +kernel
theorem dX6_chance_34 : decode cX6_chance 34 = .ok (.iconst 2, 1) := by decide +kernel
theorem dX6_chance_35 : decode cX6_chance 35 = .ok (.invokestatic 100, 3) := by decide +kernel
theorem dX6_chance_38 : decode cX6_chance 38 = .ok (.ifCond .ne 7, 3) := by decide +kernel
theorem dX6_chance_41 : decode cX6_chance 41 = .ok (.ldc2_w 196, 3) := by decide +kernel
theorem dX6_chance_44 : decode cX6_chance 44 = .ok (.lreturn, 1) := by decide +kernel
theorem dX6_chance_45 : decode cX6_chance 45 = .ok (.aload_n 0, 1) := by decide +kernel
theorem dX6_chance_46 : decode cX6_chance 46 = .ok (.getfield 38, 3) := by decide +kernel
theorem dX6_chance_49 : decode cX6_chance 49 = .ok (.aload_n 0, 1) := by decide +kernel
theorem dX6_chance_50 : decode cX6_chance 50 = .ok (.getfield 10, 3) := by decide +kernel
theorem dX6_chance_53 : decode cX6_chance 53 = .ok (.iload_n 3, 1) := by decide +kernel
theorem dX6_chance_54 : decode cX6_chance 54 = .ok (.invokevirtual 128, 3) := by decide +kernel
theorem dX6_chance_57 : decode cX6_chance 57 = .ok (.iconst 0, 1) := by decide +kernel
theorem dX6_chance_58 : decode cX6_chance 58 = .ok (.istore 6, 2) := by decide +kernel
theorem dX6_chance_60 : decode cX6_chance 60 = .ok (.iconst 0, 1) := by decide +kernel
theorem dX6_chance_61 : decode cX6_chance 61 = .ok (.istore 7, 2) := by decide +kernel
theorem dX6_chance_63 : decode cX6_chance 63 = .ok (.iload 7, 2) := by decide +kernel
theorem dX6_chance_65 : decode cX6_chance 65 = .ok (.iload_n 2, 1) := by decide +kernel
theorem dX6_chance_66 : decode cX6_chance 66 = .ok (.if_icmp .ge 42, 3) := by decide +kernel
theorem dX6_chance_69 : decode cX6_chance 69 = .ok (.iload 6, 2) := by decide +kernel
theorem dX6_chance_71 : decode cX6_chance 71 = .ok (.aload_n 0, 1) := by decide +kernel
theorem dX6_chance_72 : decode cX6_chance 72 = .ok (.iload_n 1, 1) := by decide +kernel
theorem dX6_chance_73 : decode cX6_chance 73 = .ok (.iload 7, 2) := by decide +kernel
theorem dX6_chance_75 : decode cX6_chance 75 = .ok (.iadd, 1) := by decide +kernel
theorem dX6_chance_76 : decode cX6_chance 76 = .ok (.aload_n 0, 1) := by decide +kernel
theorem dX6_chance_77 : decode cX6_chance 77 = .ok (.getfield 10, 3) := by decide +kernel
theorem dX6_chance_80 : decode cX6_chance 80 = .ok (.iload_n 3, 1) := by decide +kernel
theorem dX6_chance_81 : decode cX6_chance 81 = .ok (.invokevirtual 132, 3) := by decide +kernel
theorem dX6_chance_84 : decode cX6_chance 84 = .ok (.bipush 8, 2) := by decide +kernel
theorem dX6_chance_86 : decode cX6_chance 86 = .ok (.invokevirtual 293, 3) := by decide +kernel
theorem dX6_chance_89 : decode cX6_chance 89 = .ok (.iload 4, 2) := by decide +kernel
theorem dX6_chance_91 : decode cX6_chance 91 = .ok (.if_icmp .lt 7, 3) := by decide +kernel
theorem dX6_chance_94 : decode cX6_chance 94 = .ok (.iconst 1, 1) := by decide +kernel
theorem dX6_chance_95 : decode cX6_chance 95 = .ok (.goto 4, 3) := by decide +kernel
theorem dX6_chance_98 : decode cX6_chance 98 = .ok (.iconst 0, 1) := by decide +kernel
theorem dX6_chance_99 : decode cX6_chance 99 = .ok (.iadd, 1) := by decide +kernel
theorem dX6_chance_100 : decode cX6_chance 100 = .ok (.istore 6, 2) := by decide +kernel
theorem dX6_chance_102 : decode cX6_chance 102 = .ok (.iinc 7 1, 3) := by decide +kernel
theorem dX6_chance_105 : decode cX6_chance 105 = .ok (.goto (-42), 3) := by decide +kernel
theorem dX6_chance_108 : decode cX6_chance 108 = .ok (.iload 6, 2) := by decide +kernel
theorem dX6_chance_110 : decode cX6_chance 110 = .ok (.i2l, 1) := by decide +kernel
theorem dX6_chance_111 : decode cX6_chance 111 = .ok (.iload_n 2, 1) := by decide +kernel
theorem dX6_chance_112 : decode cX6_chance 112 = .ok (.i2l, 1) := by decide +kernel
theorem dX6_chance_113 : decode cX6_chance 113 = .ok (.iload 5, 2) := by decide +kernel
theorem dX6_chance_115 : decode cX6_chance 115 = .ok (.invokestatic 242, 3) := by decide +kernel
theorem dX6_chance_118 : decode cX6_chance 118 = .ok (.lreturn, 1) := by decide +kernel
theorem dX6_image_0 : decode cX6_image 0 = .ok (.aload_n 0, 1) := by decide +kernel
theorem dX6_image_1 : decode cX6_image 1 = .ok (.getfield 16, 3) := by decide +kernel
theorem dX6_image_4 : decode cX6_image 4 = .ok (.aload_n 0, 1) := by decide +kernel
theorem dX6_image_5 : decode cX6_image 5 = .ok (.getfield 10, 3) := by decide +kernel
theorem dX6_image_8 : decode cX6_image 8 = .ok (.invokevirtual 297, 3) := by decide +kernel
theorem dX6_image_11 : decode cX6_image 11 = .ok (.aload_n 0, 1) := by decide +kernel
theorem dX6_image_12 : decode cX6_image 12 = .ok (.iconst 1, 1) := by decide +kernel
theorem dX6_image_13 : decode cX6_image 13 = .ok (.putfield 300, 3) := by decide +kernel
theorem dX6_image_16 : decode cX6_image 16 = .ok (.aload_n 0, 1) := by decide +kernel
theorem dX6_image_17 : decode cX6_image 17 = .ok (.getfield 16, 3) := by decide +kernel
theorem dX6_image_20 : decode cX6_image 20 = .ok (.getfield 93, 3) := by decide +kernel
theorem dX6_image_23 : decode cX6_image 23 = .ok (.ireturn, 1) := by decide +kernel
theorem dX6_back_0 : decode cX6_back 0 = .ok (.aload_n 0, 1) := by decide +kernel
theorem dX6_back_1 : decode cX6_back 1 = .ok (.getfield 300, 3) := by decide +kernel
theorem dX6_back_4 : decode cX6_back 4 = .ok (.ifCond .ne 6, 3) := by decide +kernel
theorem dX6_back_7 : decode cX6_back 7 = .ok (.bipush (-3), 2) := by decide +kernel
theorem dX6_back_9 : decode cX6_back 9 = .ok (.ireturn, 1) := by decide +kernel
theorem dX6_back_10 : decode cX6_back 10 = .ok (.aload_n 0, 1) := by decide +kernel
theorem dX6_back_11 : decode cX6_back 11 = .ok (.getfield 10, 3) := by decide +kernel
theorem dX6_back_14 : decode cX6_back 14 = .ok (.aload_n 0, 1) := by decide +kernel
theorem dX6_back_15 : decode cX6_back 15 = .ok (.getfield 16, 3) := by decide +kernel
theorem dX6_back_18 : decode cX6_back 18 = .ok (.invokevirtual 297, 3) := by decide +kernel
theorem dX6_back_21 : decode cX6_back 21 = .ok (.aload_n 0, 1) := by decide +kernel
theorem dX6_back_22 : decode cX6_back 22 = .ok (.getfield 10, 3) := by decide +kernel
theorem dX6_back_25 : decode cX6_back 25 = .ok (.getfield 93, 3) := by decide +kernel
theorem dX6_back_28 : decode cX6_back 28 = .ok (.ireturn, 1) := by decide +kernel
theorem dX6_count_0 : decode cX6_count 0 = .ok (.iload_n 1, 1) := by decide +kernel
theorem dX6_count_1 : decode cX6_count 1 = .ok (.tableswitch 90 0 5 #[39, 47, 58, 66, 74, 82], 39) := by decide +kernel
theorem dX6_count_40 : decode cX6_count 40 = .ok (.aload_n 0, 1) := by decide +kernel
theorem dX6_count_41 : decode cX6_count 41 = .ok (.getfield 10, 3) := by decide +kernel
theorem dX6_count_44 : decode cX6_count 44 = .ok (.getfield 93, 3) := by decide +kernel
theorem dX6_count_47 : decode cX6_count 47 = .ok (.ireturn, 1) := by decide +kernel
theorem dX6_count_48 : decode cX6_count 48 = .ok (.aload_n 0, 1) := by decide +kernel
theorem dX6_count_49 : decode cX6_count 49 = .ok (.getfield 10, 3) := by decide +kernel
theorem dX6_count_52 : decode cX6_count 52 = .ok (.invokevirtual 169, 3) := by decide +kernel
theorem dX6_count_55 : decode cX6_count 55 = .ok (.invokestatic 173, 3) := by decide +kernel
theorem dX6_count_58 : decode cX6_count 58 = .ok (.ireturn, 1) := by decide +kernel
theorem dX6_count_59 : decode cX6_count 59 = .ok (.aload_n 0, 1) := by decide +kernel
theorem dX6_count_60 : decode cX6_count 60 = .ok (.getfield 10, 3) := by decide +kernel
theorem dX6_count_63 : decode cX6_count 63 = .ok (.invokevirtual 304, 3) := by decide +kernel
theorem dX6_count_66 : decode cX6_count 66 = .ok (.ireturn, 1) := by decide +kernel
theorem dX6_count_67 : decode cX6_count 67 = .ok (.aload_n 0, 1) := by decide +kernel
theorem dX6_count_68 : decode cX6_count 68 = .ok (.getfield 22, 3) := by decide +kernel
theorem dX6_count_71 : decode cX6_count 71 = .ok (.getfield 145, 3) := by decide +kernel
theorem dX6_count_74 : decode cX6_count 74 = .ok (.ireturn, 1) := by decide +kernel
theorem dX6_count_75 : decode cX6_count 75 = .ok (.aload_n 0, 1) := by decide +kernel
theorem dX6_count_76 : decode cX6_count 76 = .ok (.getfield 31, 3) := by decide +kernel
theorem dX6_count_79 : decode cX6_count 79 = .ok (.getfield 144, 3) := by decide +kernel
theorem dX6_count_82 : decode cX6_count 82 = .ok (.ireturn, 1) := by decide +kernel
theorem dX6_count_83 : decode cX6_count 83 = .ok (.aload_n 0, 1) := by decide +kernel
theorem dX6_count_84 : decode cX6_count 84 = .ok (.getfield 10, 3) := by decide +kernel
theorem dX6_count_87 : decode cX6_count 87 = .ok (.getfield 146, 3) := by decide +kernel
theorem dX6_count_90 : decode cX6_count 90 = .ok (.ireturn, 1) := by decide +kernel
theorem dX6_count_91 : decode cX6_count 91 = .ok (.bipush (-2), 2) := by decide +kernel
theorem dX6_count_93 : decode cX6_count 93 = .ok (.ireturn, 1) := by decide +kernel
theorem dX6_sheet_0 : decode cX6_sheet 0 = .ok (.iload_n 1, 1) := by decide +kernel
theorem dX6_sheet_1 : decode cX6_sheet 1 = .ok (.iconst 4, 1) := by decide +kernel
theorem dX6_sheet_2 : decode cX6_sheet 2 = .ok (.invokestatic 100, 3) := by decide +kernel
theorem dX6_sheet_5 : decode cX6_sheet 5 = .ok (.ifCond .eq 13, 3) := by decide +kernel
theorem dX6_sheet_8 : decode cX6_sheet 8 = .ok (.iload_n 2, 1) := by decide +kernel
theorem dX6_sheet_9 : decode cX6_sheet 9 = .ok (.iconst (-1), 1) := by decide +kernel
theorem dX6_sheet_10 : decode cX6_sheet 10 = .ok (.if_icmp .lt 8, 3) := by decide +kernel
theorem dX6_sheet_13 : decode cX6_sheet 13 = .ok (.iload_n 2, 1) := by decide +kernel
theorem dX6_sheet_14 : decode cX6_sheet 14 = .ok (.iconst 3, 1) := by decide +kernel
theorem dX6_sheet_15 : decode cX6_sheet 15 = .ok (.if_icmp .lt 6, 3) := by decide +kernel
theorem dX6_sheet_18 : decode cX6_sheet 18 = .ok (.bipush (-2), 2) := by decide +kernel
theorem dX6_sheet_20 : decode cX6_sheet 20 = .ok (.ireturn, 1) := by decide +kernel
theorem dX6_sheet_21 : decode cX6_sheet 21 = .ok (.iload_n 2, 1) := by decide +kernel
theorem dX6_sheet_22 : decode cX6_sheet 22 = .ok (.iconst (-1), 1) := by decide +kernel
theorem dX6_sheet_23 : decode cX6_sheet 23 = .ok (.if_icmp .eq 12, 3) := by decide +kernel
theorem dX6_sheet_26 : decode cX6_sheet 26 = .ok (.iload_n 3, 1) := by decide +kernel
theorem dX6_sheet_27 : decode cX6_sheet 27 = .ok (.bipush 40, 2) := by decide +kernel
theorem dX6_sheet_29 : decode cX6_sheet 29 = .ok (.if_icmp .le 6, 3) := by decide +kernel
theorem dX6_sheet_32 : decode cX6_sheet 32 = .ok (.bipush (-2), 2) := by decide +kernel
theorem dX6_sheet_34 : decode cX6_sheet 34 = .ok (.ireturn, 1) := by decide +kernel
theorem dX6_sheet_35 : decode cX6_sheet 35 = .ok (.iload_n 2, 1) := by decide +kernel
theorem dX6_sheet_36 : decode cX6_sheet 36 = .ok (.iconst (-1), 1) := by decide +kernel
theorem dX6_sheet_37 : decode cX6_sheet 37 = .ok (.if_icmp .eq 10, 3) := by decide +kernel
theorem dX6_sheet_40 : decode cX6_sheet 40 = .ok (.iload_n 3, 1) := by decide +kernel
theorem dX6_sheet_41 : decode cX6_sheet 41 = .ok (.ifCond .ge 6, 3) := by decide +kernel
theorem dX6_sheet_44 : decode cX6_sheet 44 = .ok (.bipush (-14), 2) := by decide +kernel
theorem dX6_sheet_46 : decode cX6_sheet 46 = .ok (.ireturn, 1) := by decide +kernel
theorem dX6_sheet_47 : decode cX6_sheet 47 = .ok (.aload_n 0, 1) := by decide +kernel
theorem dX6_sheet_48 : decode cX6_sheet 48 = .ok (.getfield 52, 3) := by decide +kernel
theorem dX6_sheet_51 : decode cX6_sheet 51 = .ok (.iload_n 1, 1) := by decide +kernel
theorem dX6_sheet_52 : decode cX6_sheet 52 = .ok (.aaload, 1) := by decide +kernel
theorem dX6_sheet_53 : decode cX6_sheet 53 = .ok (.iload_n 2, 1) := by decide +kernel
theorem dX6_sheet_54 : decode cX6_sheet 54 = .ok (.iload_n 2, 1) := by decide +kernel
theorem dX6_sheet_55 : decode cX6_sheet 55 = .ok (.iconst (-1), 1) := by decide +kernel
theorem dX6_sheet_56 : decode cX6_sheet 56 = .ok (.if_icmp .ne 7, 3) := by decide +kernel
theorem dX6_sheet_59 : decode cX6_sheet 59 = .ok (.iconst 0, 1) := by decide +kernel
theorem dX6_sheet_60 : decode cX6_sheet 60 = .ok (.goto 4, 3) := by decide +kernel
theorem dX6_sheet_63 : decode cX6_sheet 63 = .ok (.iload_n 3, 1) := by decide +kernel
theorem dX6_sheet_64 : decode cX6_sheet 64 = .ok (.invokevirtual 288, 3) := by decide +kernel
theorem dX6_sheet_67 : decode cX6_sheet 67 = .ok (.iconst 1, 1) := by decide +kernel
theorem dX6_sheet_68 : decode cX6_sheet 68 = .ok (.ireturn, 1) := by decide +kernel
theorem dX6_cell_0 : decode cX6_cell 0 = .ok (.iload_n 1, 1) := by decide +kernel
theorem dX6_cell_1 : decode cX6_cell 1 = .ok (.iconst 4, 1) := by decide +kernel
theorem dX6_cell_2 : decode cX6_cell 2 = .ok (.invokestatic 100, 3) := by decide +kernel
theorem dX6_cell_5 : decode cX6_cell 5 = .ok (.ifCond .ne 6, 3) := by decide +kernel
theorem dX6_cell_8 : decode cX6_cell 8 = .ok (.bipush (-2), 2) := by decide +kernel
theorem dX6_cell_10 : decode cX6_cell 10 = .ok (.ireturn, 1) := by decide +kernel
theorem dX6_cell_11 : decode cX6_cell 11 = .ok (.aload_n 0, 1) := by decide +kernel
theorem dX6_cell_12 : decode cX6_cell 12 = .ok (.getfield 52, 3) := by decide +kernel
theorem dX6_cell_15 : decode cX6_cell 15 = .ok (.iload_n 1, 1) := by decide +kernel
theorem dX6_cell_16 : decode cX6_cell 16 = .ok (.aaload, 1) := by decide +kernel
theorem dX6_cell_17 : decode cX6_cell 17 = .ok (.invokevirtual 246, 3) := by decide +kernel
theorem dX6_cell_20 : decode cX6_cell 20 = .ok (.ifCond .eq 6, 3) := by decide +kernel
theorem dX6_cell_23 : decode cX6_cell 23 = .ok (.bipush (-11), 2) := by decide +kernel
theorem dX6_cell_25 : decode cX6_cell 25 = .ok (.ireturn, 1) := by decide +kernel
theorem dX6_cell_26 : decode cX6_cell 26 = .ok (.aload_n 0, 1) := by decide +kernel
theorem dX6_cell_27 : decode cX6_cell 27 = .ok (.getfield 52, 3) := by decide +kernel
theorem dX6_cell_30 : decode cX6_cell 30 = .ok (.iload_n 1, 1) := by decide +kernel
theorem dX6_cell_31 : decode cX6_cell 31 = .ok (.aaload, 1) := by decide +kernel
theorem dX6_cell_32 : decode cX6_cell 32 = .ok (.iload_n 2, 1) := by decide +kernel
theorem dX6_cell_33 : decode cX6_cell 33 = .ok (.iload_n 3, 1) := by decide +kernel
theorem dX6_cell_34 : decode cX6_cell 34 = .ok (.invokevirtual 291, 3) := by decide +kernel
theorem dX6_cell_37 : decode cX6_cell 37 = .ok (.ifCond .eq 7, 3) := by decide +kernel
theorem dX6_cell_40 : decode cX6_cell 40 = .ok (.iconst 1, 1) := by decide +kernel
theorem dX6_cell_41 : decode cX6_cell 41 = .ok (.goto 5, 3) := by decide +kernel
theorem dX6_cell_44 : decode cX6_cell 44 = .ok (.bipush (-12), 2) := by decide +kernel
theorem dX6_cell_46 : decode cX6_cell 46 = .ok (.ireturn, 1) := by decide +kernel
theorem dX6_copy_0 : decode cX6_copy 0 = .ok (.iload_n 1, 1) := by decide +kernel
theorem dX6_copy_1 : decode cX6_copy 1 = .ok (.iconst 4, 1) := by decide +kernel
theorem dX6_copy_2 : decode cX6_copy 2 = .ok (.invokestatic 100, 3) := by decide +kernel
theorem dX6_copy_5 : decode cX6_copy 5 = .ok (.ifCond .eq 11, 3) := by decide +kernel
theorem dX6_copy_8 : decode cX6_copy 8 = .ok (.iload_n 3, 1) := by decide +kernel
theorem dX6_copy_9 : decode cX6_copy 9 = .ok (.iconst 4, 1) := by decide +kernel
theorem dX6_copy_10 : decode cX6_copy 10 = .ok (.invokestatic 100, 3) := by decide +kernel
theorem dX6_copy_13 : decode cX6_copy 13 = .ok (.ifCond .ne 6, 3) := by decide +kernel
theorem dX6_copy_16 : decode cX6_copy 16 = .ok (.bipush (-2), 2) := by decide +kernel
theorem dX6_copy_18 : decode cX6_copy 18 = .ok (.ireturn, 1) := by decide +kernel
theorem dX6_copy_19 : decode cX6_copy 19 = .ok (.aload_n 0, 1) := by decide +kernel
theorem dX6_copy_20 : decode cX6_copy 20 = .ok (.getfield 52, 3) := by decide +kernel
theorem dX6_copy_23 : decode cX6_copy 23 = .ok (.iload_n 1, 1) := by decide +kernel
theorem dX6_copy_24 : decode cX6_copy 24 = .ok (.aaload, 1) := by decide +kernel
theorem dX6_copy_25 : decode cX6_copy 25 = .ok (.astore 6, 2) := by decide +kernel
theorem dX6_copy_27 : decode cX6_copy 27 = .ok (.aload_n 0, 1) := by decide +kernel
theorem dX6_copy_28 : decode cX6_copy 28 = .ok (.getfield 52, 3) := by decide +kernel
theorem dX6_copy_31 : decode cX6_copy 31 = .ok (.iload_n 3, 1) := by decide +kernel
theorem dX6_copy_32 : decode cX6_copy 32 = .ok (.aaload, 1) := by decide +kernel
theorem dX6_copy_33 : decode cX6_copy 33 = .ok (.astore 7, 2) := by decide +kernel
theorem dX6_copy_35 : decode cX6_copy 35 = .ok (.aload 6, 2) := by decide +kernel
theorem dX6_copy_37 : decode cX6_copy 37 = .ok (.invokevirtual 246, 3) := by decide +kernel
theorem dX6_copy_40 : decode cX6_copy 40 = .ok (.ifCond .ne 11, 3) := by decide +kernel
theorem dX6_copy_43 : decode cX6_copy 43 = .ok (.aload 7, 2) := by decide +kernel
theorem dX6_copy_45 : decode cX6_copy 45 = .ok (.invokevirtual 246, 3) := by decide +kernel
theorem dX6_copy_48 : decode cX6_copy 48 = .ok (.ifCond .eq 6, 3) := by decide +kernel
theorem dX6_copy_51 : decode cX6_copy 51 = .ok (.bipush (-11), 2) := by decide +kernel
theorem dX6_copy_53 : decode cX6_copy 53 = .ok (.ireturn, 1) := by decide +kernel
theorem dX6_copy_54 : decode cX6_copy 54 = .ok (.aload 6, 2) := by decide +kernel
theorem dX6_copy_56 : decode cX6_copy 56 = .ok (.getfield 307, 3) := by decide +kernel
theorem dX6_copy_59 : decode cX6_copy 59 = .ok (.aload 7, 2) := by decide +kernel
theorem dX6_copy_61 : decode cX6_copy 61 = .ok (.getfield 307, 3) := by decide +kernel
theorem dX6_copy_64 : decode cX6_copy 64 = .ok (.if_icmp .eq 6, 3) := by decide +kernel
theorem dX6_copy_67 : decode cX6_copy 67 = .ok (.bipush (-13), 2) := by decide +kernel
theorem dX6_copy_69 : decode cX6_copy 69 = .ok (.ireturn, 1) := by decide +kernel
theorem dX6_copy_70 : decode cX6_copy 70 = .ok (.aload 6, 2) := by decide +kernel
theorem dX6_copy_72 : decode cX6_copy 72 = .ok (.iload_n 2, 1) := by decide +kernel
theorem dX6_copy_73 : decode cX6_copy 73 = .ok (.iload 5, 2) := by decide +kernel
theorem dX6_copy_75 : decode cX6_copy 75 = .ok (.invokevirtual 310, 3) := by decide +kernel
theorem dX6_copy_78 : decode cX6_copy 78 = .ok (.ifCond .eq 15, 3) := by decide +kernel
theorem dX6_copy_81 : decode cX6_copy 81 = .ok (.aload 7, 2) := by decide +kernel
theorem dX6_copy_83 : decode cX6_copy 83 = .ok (.iload 4, 2) := by decide +kernel
theorem dX6_copy_85 : decode cX6_copy 85 = .ok (.iload 5, 2) := by decide +kernel
theorem dX6_copy_87 : decode cX6_copy 87 = .ok (.invokevirtual 310, 3) := by decide +kernel
theorem dX6_copy_90 : decode cX6_copy 90 = .ok (.ifCond .ne 6, 3) := by decide +kernel
theorem dX6_copy_93 : decode cX6_copy 93 = .ok (.bipush (-12), 2) := by decide +kernel
theorem dX6_copy_95 : decode cX6_copy 95 = .ok (.ireturn, 1) := by decide +kernel
theorem dX6_copy_96 : decode cX6_copy 96 = .ok (.aload 6, 2) := by decide +kernel
theorem dX6_copy_98 : decode cX6_copy 98 = .ok (.getfield 313, 3) := by decide +kernel
theorem dX6_copy_101 : decode cX6_copy 101 = .ok (.iload_n 2, 1) := by decide +kernel
theorem dX6_copy_102 : decode cX6_copy 102 = .ok (.aload 7, 2) := by decide +kernel
theorem dX6_copy_104 : decode cX6_copy 104 = .ok (.getfield 313, 3) := by decide +kernel
theorem dX6_copy_107 : decode cX6_copy 107 = .ok (.iload 4, 2) := by decide +kernel
theorem dX6_copy_109 : decode cX6_copy 109 = .ok (.iload 5, 2) := by decide +kernel
theorem dX6_copy_111 : decode cX6_copy 111 = .ok (.invokestatic 316, 3) := by decide +kernel
theorem dX6_copy_114 : decode cX6_copy 114 = .ok (.iload 5, 2) := by decide +kernel
theorem dX6_copy_116 : decode cX6_copy 116 = .ok (.ireturn, 1) := by decide +kernel
theorem dX6_pairs_0 : decode cX6_pairs 0 = .ok (.iload_n 1, 1) := by decide +kernel
theorem dX6_pairs_1 : decode cX6_pairs 1 = .ok (.iconst 4, 1) := by decide +kernel
theorem dX6_pairs_2 : decode cX6_pairs 2 = .ok (.invokestatic 100, 3) := by decide +kernel
theorem dX6_pairs_5 : decode cX6_pairs 5 = .ok (.ifCond .eq 21, 3) := by decide +kernel
theorem dX6_pairs_8 : decode cX6_pairs 8 = .ok (.iload_n 2, 1) := by decide +kernel
theorem dX6_pairs_9 : decode cX6_pairs 9 = .ok (.iconst 3, 1) := by decide +kernel
theorem dX6_pairs_10 : decode cX6_pairs 10 = .ok (.invokestatic 100, 3) := by decide +kernel
theorem dX6_pairs_13 : decode cX6_pairs 13 = .ok (.ifCond .eq 13, 3) := by decide +kernel
theorem dX6_pairs_16 : decode cX6_pairs 16 = .ok (.iload 4, 2) := by decide +kernel
theorem dX6_pairs_18 : decode cX6_pairs 18 = .ok (.bipush 6, 2) := by decide +kernel
theorem dX6_pairs_20 : decode cX6_pairs 20 = .ok (.invokestatic 100, 3) := by decide +kernel
theorem dX6_pairs_23 : decode cX6_pairs 23 = .ok (.ifCond .ne 6, 3) := by decide +kernel
theorem dX6_pairs_26 : decode cX6_pairs 26 = .ok (.bipush (-2), 2) := by decide +kernel
theorem dX6_pairs_28 : decode cX6_pairs 28 = .ok (.ireturn, 1) := by decide +kernel
theorem dX6_pairs_29 : decode cX6_pairs 29 = .ok (.aload_n 0, 1) := by decide +kernel
theorem dX6_pairs_30 : decode cX6_pairs 30 = .ok (.getfield 52, 3) := by decide +kernel
theorem dX6_pairs_33 : decode cX6_pairs 33 = .ok (.iload_n 1, 1) := by decide +kernel
theorem dX6_pairs_34 : decode cX6_pairs 34 = .ok (.aaload, 1) := by decide +kernel
theorem dX6_pairs_35 : decode cX6_pairs 35 = .ok (.astore 5, 2) := by decide +kernel
theorem dX6_pairs_37 : decode cX6_pairs 37 = .ok (.aload 5, 2) := by decide +kernel
theorem dX6_pairs_39 : decode cX6_pairs 39 = .ok (.invokevirtual 246, 3) := by decide +kernel
theorem dX6_pairs_42 : decode cX6_pairs 42 = .ok (.ifCond .ne 15, 3) := by decide +kernel
theorem dX6_pairs_45 : decode cX6_pairs 45 = .ok (.aload 5, 2) := by decide +kernel
theorem dX6_pairs_47 : decode cX6_pairs 47 = .ok (.getfield 307, 3) := by decide +kernel
theorem dX6_pairs_50 : decode cX6_pairs 50 = .ok (.iload_n 2, 1) := by decide +kernel
theorem dX6_pairs_51 : decode cX6_pairs 51 = .ok (.if_icmp .eq 6, 3) := by decide +kernel
theorem dX6_pairs_54 : decode cX6_pairs 54 = .ok (.bipush (-13), 2) := by decide +kernel
theorem dX6_pairs_56 : decode cX6_pairs 56 = .ok (.ireturn, 1) := by decide +kernel
theorem dX6_pairs_57 : decode cX6_pairs 57 = .ok (.aload 5, 2) := by decide +kernel
theorem dX6_pairs_59 : decode cX6_pairs 59 = .ok (.invokevirtual 246, 3) := by decide +kernel
theorem dX6_pairs_62 : decode cX6_pairs 62 = .ok (.ifCond .eq 6, 3) := by decide +kernel
theorem dX6_pairs_65 : decode cX6_pairs 65 = .ok (.bipush (-11), 2) := by decide +kernel
theorem dX6_pairs_67 : decode cX6_pairs 67 = .ok (.ireturn, 1) := by decide +kernel
theorem dX6_pairs_68 : decode cX6_pairs 68 = .ok (.iconst 0, 1) := by decide +kernel
theorem dX6_pairs_69 : decode cX6_pairs 69 = .ok (.istore 6, 2) := by decide +kernel
theorem dX6_pairs_71 : decode cX6_pairs 71 = .ok (.iconst 0, 1) := by decide +kernel
theorem dX6_pairs_72 : decode cX6_pairs 72 = .ok (.istore 7, 2) := by decide +kernel
theorem dX6_pairs_74 : decode cX6_pairs 74 = .ok (.iload 7, 2) := by decide +kernel
theorem dX6_pairs_76 : decode cX6_pairs 76 = .ok (.iload 4, 2) := by decide +kernel
theorem dX6_pairs_78 : decode cX6_pairs 78 = .ok (.if_icmp .ge 86, 3) := by decide +kernel
theorem dX6_pairs_81 : decode cX6_pairs 81 = .ok (.iload_n 3, 1) := by decide +kernel
theorem dX6_pairs_82 : decode cX6_pairs 82 = .ok (.bipush 40, 2) := by decide +kernel
theorem dX6_pairs_84 : decode cX6_pairs 84 = .ok (.invokestatic 100, 3) := by decide +kernel
theorem dX6_pairs_87 : decode cX6_pairs 87 = .ok (.ifCond .eq 12, 3) := by decide +kernel
theorem dX6_pairs_90 : decode cX6_pairs 90 = .ok (.iload_n 3, 1) := by decide +kernel
theorem dX6_pairs_91 : decode cX6_pairs 91 = .ok (.iconst 3, 1) := by decide +kernel
theorem dX6_pairs_92 : decode cX6_pairs 92 = .ok (.iload 7, 2) := by decide +kernel
theorem dX6_pairs_94 : decode cX6_pairs 94 = .ok (.imul, 1) := by decide +kernel
theorem dX6_pairs_95 : decode cX6_pairs 95 = .ok (.iadd, 1) := by decide +kernel
theorem dX6_pairs_96 : decode cX6_pairs 96 = .ok (.goto 4, 3) := by decide +kernel
theorem dX6_pairs_99 : decode cX6_pairs 99 = .ok (.iconst (-1), 1) := by decide +kernel
theorem dX6_pairs_100 : decode cX6_pairs 100 = .ok (.istore 8, 2) := by decide +kernel
theorem dX6_pairs_102 : decode cX6_pairs 102 = .ok (.aload 5, 2) := by decide +kernel
theorem dX6_pairs_104 : decode cX6_pairs 104 = .ok (.iload 8, 2) := by decide +kernel
theorem dX6_pairs_106 : decode cX6_pairs 106 = .ok (.iconst 3, 1) := by decide +kernel
theorem dX6_pairs_107 : decode cX6_pairs 107 = .ok (.invokevirtual 310, 3) := by decide +kernel
theorem dX6_pairs_110 : decode cX6_pairs 110 = .ok (.ifCond .ne 6, 3) := by decide +kernel
theorem dX6_pairs_113 : decode cX6_pairs 113 = .ok (.bipush (-12), 2) := by decide +kernel
theorem dX6_pairs_115 : decode cX6_pairs 115 = .ok (.ireturn, 1) := by decide +kernel
theorem dX6_pairs_116 : decode cX6_pairs 116 = .ok (.iload 6, 2) := by decide +kernel
theorem dX6_pairs_118 : decode cX6_pairs 118 = .ok (.aload_n 0, 1) := by decide +kernel
theorem dX6_pairs_119 : decode cX6_pairs 119 = .ok (.aload 5, 2) := by decide +kernel
theorem dX6_pairs_121 : decode cX6_pairs 121 = .ok (.iload 8, 2) := by decide +kernel
theorem dX6_pairs_123 : decode cX6_pairs 123 = .ok (.invokevirtual 277, 3) := by decide +kernel
theorem dX6_pairs_126 : decode cX6_pairs 126 = .ok (.aload 5, 2) := by decide +kernel
theorem dX6_pairs_128 : decode cX6_pairs 128 = .ok (.iload 8, 2) := by decide +kernel
theorem dX6_pairs_130 : decode cX6_pairs 130 = .ok (.iconst 1, 1) := by decide +kernel
theorem dX6_pairs_131 : decode cX6_pairs 131 = .ok (.iadd, 1) := by decide +kernel
theorem dX6_pairs_132 : decode cX6_pairs 132 = .ok (.invokevirtual 277, 3) := by decide +kernel
theorem dX6_pairs_135 : decode cX6_pairs 135 = .ok (.aload 5, 2) := by decide +kernel
theorem dX6_pairs_137 : decode cX6_pairs 137 = .ok (.iload 8, 2) := by decide +kernel
theorem dX6_pairs_139 : decode cX6_pairs 139 = .ok (.iconst 2, 1) := by decide +kernel
theorem dX6_pairs_140 : decode cX6_pairs 140 = .ok (.iadd, 1) := by decide +kernel
theorem dX6_pairs_141 : decode cX6_pairs 141 = .ok (.invokevirtual 277, 3) := by decide +kernel
theorem dX6_pairs_144 : decode cX6_pairs 144 = .ok (.invokevirtual 322, 3) := by decide +kernel
theorem dX6_pairs_147 : decode cX6_pairs 147 = .ok (.ifCond .lt 7, 3) := by decide +kernel
theorem dX6_pairs_150 : decode cX6_pairs 150 = .ok (.iconst 1, 1) := by decide +kernel
theorem dX6_pairs_151 : decode cX6_pairs 151 = .ok (.goto 4, 3) := by decide +kernel
theorem dX6_pairs_154 : decode cX6_pairs 154 = .ok (.iconst 0, 1) := by decide +kernel
theorem dX6_pairs_155 : decode cX6_pairs 155 = .ok (.iadd, 1) := by decide +kernel
theorem dX6_pairs_156 : decode cX6_pairs 156 = .ok (.istore 6, 2) := by decide +kernel
theorem dX6_pairs_158 : decode cX6_pairs 158 = .ok (.iinc 7 1, 3) := by decide +kernel
theorem dX6_pairs_161 : decode cX6_pairs 161 = .ok (.goto (-87), 3) := by decide +kernel
theorem dX6_pairs_164 : decode cX6_pairs 164 = .ok (.iload 6, 2) := by decide +kernel
theorem dX6_pairs_166 : decode cX6_pairs 166 = .ok (.ireturn, 1) := by decide +kernel
theorem dX6_taken_0 : decode cX6_taken 0 = .ok (.iload_n 2, 1) := by decide +kernel
theorem dX6_taken_1 : decode cX6_taken 1 = .ok (.bipush 6, 2) := by decide +kernel
theorem dX6_taken_3 : decode cX6_taken 3 = .ok (.invokestatic 100, 3) := by decide +kernel
theorem dX6_taken_6 : decode cX6_taken 6 = .ok (.ifCond .ne 6, 3) := by decide +kernel
theorem dX6_taken_9 : decode cX6_taken 9 = .ok (.bipush (-2), 2) := by decide +kernel
theorem dX6_taken_11 : decode cX6_taken 11 = .ok (.ireturn, 1) := by decide +kernel
theorem dX6_taken_12 : decode cX6_taken 12 = .ok (.aload_n 0, 1) := by decide +kernel
theorem dX6_taken_13 : decode cX6_taken 13 = .ok (.getfield 10, 3) := by decide +kernel
theorem dX6_taken_16 : decode cX6_taken 16 = .ok (.iload_n 1, 1) := by decide +kernel
theorem dX6_taken_17 : decode cX6_taken 17 = .ok (.invokevirtual 125, 3) := by decide +kernel
theorem dX6_taken_20 : decode cX6_taken 20 = .ok (.ifCond .ne 6, 3) := by decide +kernel
theorem dX6_taken_23 : decode cX6_taken 23 = .ok (.bipush (-11), 2) := by decide +kernel
theorem dX6_taken_25 : decode cX6_taken 25 = .ok (.ireturn, 1) := by decide +kernel
theorem dX6_taken_26 : decode cX6_taken 26 = .ok (.aload_n 0, 1) := by decide +kernel
theorem dX6_taken_27 : decode cX6_taken 27 = .ok (.getfield 10, 3) := by decide +kernel
theorem dX6_taken_30 : decode cX6_taken 30 = .ok (.getfield 115, 3) := by decide +kernel
theorem dX6_taken_33 : decode cX6_taken 33 = .ok (.iload_n 1, 1) := by decide +kernel
theorem dX6_taken_34 : decode cX6_taken 34 = .ok (.iaload, 1) := by decide +kernel
theorem dX6_taken_35 : decode cX6_taken 35 = .ok (.iload_n 2, 1) := by decide +kernel
theorem dX6_taken_36 : decode cX6_taken 36 = .ok (.invokestatic 325, 3) := by decide +kernel
theorem dX6_taken_39 : decode cX6_taken 39 = .ok (.ifCond .eq 15, 3) := by decide +kernel
theorem dX6_taken_42 : decode cX6_taken 42 = .ok (.aload_n 0, 1) := by decide +kernel
theorem dX6_taken_43 : decode cX6_taken 43 = .ok (.getfield 10, 3) := by decide +kernel
theorem dX6_taken_46 : decode cX6_taken 46 = .ok (.getfield 90, 3) := by decide +kernel
theorem dX6_taken_49 : decode cX6_taken 49 = .ok (.iload_n 1, 1) := by decide +kernel
theorem dX6_taken_50 : decode cX6_taken 50 = .ok (.iaload, 1) := by decide +kernel
theorem dX6_taken_51 : decode cX6_taken 51 = .ok (.goto 5, 3) := by decide +kernel
theorem dX6_taken_54 : decode cX6_taken 54 = .ok (.bipush (-13), 2) := by decide +kernel
theorem dX6_taken_56 : decode cX6_taken 56 = .ok (.ireturn, 1) := by decide +kernel
theorem dX6_isUnder_0 : decode cX6_isUnder 0 = .ok (.iload_n 0, 1) := by decide +kernel
theorem dX6_isUnder_1 : decode cX6_isUnder 1 = .ok (.istore_n 2, 1) := by decide +kernel
theorem dX6_isUnder_2 : decode cX6_isUnder 2 = .ok (.iconst 0, 1) := by decide +kernel
theorem dX6_isUnder_3 : decode cX6_isUnder 3 = .ok (.istore_n 3, 1) := by decide +kernel
theorem dX6_isUnder_4 : decode cX6_isUnder 4 = .ok (.iload_n 3, 1) := by decide +kernel
theorem dX6_isUnder_5 : decode cX6_isUnder 5 = .ok (.bipush 6, 2) := by decide +kernel
theorem dX6_isUnder_7 : decode cX6_isUnder 7 = .ok (.if_icmp .ge 31, 3) := by decide +kernel
theorem dX6_isUnder_10 : decode cX6_isUnder 10 = .ok (.iload_n 2, 1) := by decide +kernel
theorem dX6_isUnder_11 : decode cX6_isUnder 11 = .ok (.bipush 6, 2) := by decide +kernel
theorem dX6_isUnder_13 : decode cX6_isUnder 13 = .ok (.invokestatic 100, 3) := by decide +kernel
theorem dX6_isUnder_16 : decode cX6_isUnder 16 = .ok (.ifCond .eq 22, 3) := by decide +kernel
theorem dX6_isUnder_19 : decode cX6_isUnder 19 = .ok (.iload_n 2, 1) := by decide +kernel
theorem dX6_isUnder_20 : decode cX6_isUnder 20 = .ok (.iload_n 1, 1) := by decide +kernel
theorem dX6_isUnder_21 : decode cX6_isUnder 21 = .ok (.if_icmp .ne 5, 3) := by decide +kernel
theorem dX6_isUnder_24 : decode cX6_isUnder 24 = .ok (.iconst 1, 1) := by decide +kernel
theorem dX6_isUnder_25 : decode cX6_isUnder 25 = .ok (.ireturn, 1) := by decide +kernel
theorem dX6_isUnder_26 : decode cX6_isUnder 26 = .ok (.getstatic 328, 3) := by decide +kernel
theorem dX6_isUnder_29 : decode cX6_isUnder 29 = .ok (.iload_n 2, 1) := by decide +kernel
theorem dX6_isUnder_30 : decode cX6_isUnder 30 = .ok (.iaload, 1) := by decide +kernel
theorem dX6_isUnder_31 : decode cX6_isUnder 31 = .ok (.istore_n 2, 1) := by decide +kernel
theorem dX6_isUnder_32 : decode cX6_isUnder 32 = .ok (.iinc 3 1, 3) := by decide +kernel
theorem dX6_isUnder_35 : decode cX6_isUnder 35 = .ok (.goto (-31), 3) := by decide +kernel
theorem dX6_isUnder_38 : decode cX6_isUnder 38 = .ok (.iconst 0, 1) := by decide +kernel
theorem dX6_isUnder_39 : decode cX6_isUnder 39 = .ok (.ireturn, 1) := by decide +kernel
theorem dX6_within_0 : decode cX6_within 0 = .ok (.iload_n 0, 1) := by decide +kernel
theorem dX6_within_1 : decode cX6_within 1 = .ok (.ifCond .lt 12, 3) := by decide +kernel
theorem dX6_within_4 : decode cX6_within 4 = .ok (.iload_n 0, 1) := by decide +kernel
theorem dX6_within_5 : decode cX6_within 5 = .ok (.iload_n 1, 1) := by decide +kernel
theorem dX6_within_6 : decode cX6_within 6 = .ok (.if_icmp .ge 7, 3) := by decide +kernel
theorem dX6_within_9 : decode cX6_within 9 = .ok (.iconst 1, 1) := by decide +kernel
theorem dX6_within_10 : decode cX6_within 10 = .ok (.goto 4, 3) := by decide +kernel
theorem dX6_within_13 : decode cX6_within 13 = .ok (.iconst 0, 1) := by decide +kernel
theorem dX6_within_14 : decode cX6_within 14 = .ok (.ireturn, 1) := by decide +kernel
theorem dX6_bounded_0 : decode cX6_bounded 0 = .ok (.iload_n 1, 1) := by decide +kernel
theorem dX6_bounded_1 : decode cX6_bounded 1 = .ok (.iload_n 2, 1) := by decide +kernel
theorem dX6_bounded_2 : decode cX6_bounded 2 = .ok (.iload_n 0, 1) := by decide +kernel
theorem dX6_bounded_3 : decode cX6_bounded 3 = .ok (.invokestatic 331, 3) := by decide +kernel
theorem dX6_bounded_6 : decode cX6_bounded 6 = .ok (.invokestatic 208, 3) := by decide +kernel
theorem dX6_bounded_9 : decode cX6_bounded 9 = .ok (.ireturn, 1) := by decide +kernel
theorem dX6_milesBelow_0 : decode cX6_milesBelow 0 = .ok (.lconst 1, 1) := by decide +kernel
theorem dX6_milesBelow_1 : decode cX6_milesBelow 1 = .ok (.iload_n 0, 1) := by decide +kernel
theorem dX6_milesBelow_2 : decode cX6_milesBelow 2 = .ok (.iconst 0, 1) := by decide +kernel
theorem dX6_milesBelow_3 : decode cX6_milesBelow 3 = .ok (.bipush 40, 2) := by decide +kernel
theorem dX6_milesBelow_5 : decode cX6_milesBelow 5 = .ok (.invokestatic 334, 3) := by decide +kernel
theorem dX6_milesBelow_8 : decode cX6_milesBelow 8 = .ok (.lshl, 1) := by decide +kernel
theorem dX6_milesBelow_9 : decode cX6_milesBelow 9 = .ok (.lconst 1, 1) := by decide +kernel
theorem dX6_milesBelow_10 : decode cX6_milesBelow 10 = .ok (.lsub, 1) := by decide +kernel
theorem dX6_milesBelow_11 : decode cX6_milesBelow 11 = .ok (.lreturn, 1) := by decide +kernel
theorem dX6_lowest_0 : decode cX6_lowest 0 = .ok (.lload_n 0, 1) := by decide +kernel
theorem dX6_lowest_1 : decode cX6_lowest 1 = .ok (.lload_n 2, 1) := by decide +kernel
theorem dX6_lowest_2 : decode cX6_lowest 2 = .ok (.invokestatic 337, 3) := by decide +kernel
theorem dX6_lowest_5 : decode cX6_lowest 5 = .ok (.lstore 5, 2) := by decide +kernel
theorem dX6_lowest_7 : decode cX6_lowest 7 = .ok (.lload 5, 2) := by decide +kernel
theorem dX6_lowest_9 : decode cX6_lowest 9 = .ok (.lconst 1, 1) := by decide +kernel
theorem dX6_lowest_10 : decode cX6_lowest 10 = .ok (.lcmp, 1) := by decide +kernel
theorem dX6_lowest_11 : decode cX6_lowest 11 = .ok (.ifCond .ge 7, 3) := by decide +kernel
theorem dX6_lowest_14 : decode cX6_lowest 14 = .ok (.ldc2_w 196, 3) := by decide +kernel
theorem dX6_lowest_17 : decode cX6_lowest 17 = .ok (.lreturn, 1) := by decide +kernel
theorem dX6_lowest_18 : decode cX6_lowest 18 = .ok (.iload 4, 2) := by decide +kernel
theorem dX6_lowest_20 : decode cX6_lowest 20 = .ok (.ifCond .ne 7, 3) := by decide +kernel
theorem dX6_lowest_23 : decode cX6_lowest 23 = .ok (.lload_n 0, 1) := by decide +kernel
theorem dX6_lowest_24 : decode cX6_lowest 24 = .ok (.goto 4, 3) := by decide +kernel
theorem dX6_lowest_27 : decode cX6_lowest 27 = .ok (.lload_n 2, 1) := by decide +kernel
theorem dX6_lowest_28 : decode cX6_lowest 28 = .ok (.lload 5, 2) := by decide +kernel
theorem dX6_lowest_30 : decode cX6_lowest 30 = .ok (.ldiv, 1) := by decide +kernel
theorem dX6_lowest_31 : decode cX6_lowest 31 = .ok (.lreturn, 1) := by decide +kernel
theorem dX6_commonDivisor_0 : decode cX6_commonDivisor 0 = .ok (.lload_n 0, 1) := by decide +kernel
theorem dX6_commonDivisor_1 : decode cX6_commonDivisor 1 = .ok (.lstore 4, 2) := by decide +kernel
theorem dX6_commonDivisor_3 : decode cX6_commonDivisor 3 = .ok (.lload_n 2, 1) := by decide +kernel
theorem dX6_commonDivisor_4 : decode cX6_commonDivisor 4 = .ok (.lstore 6, 2) := by decide +kernel
theorem dX6_commonDivisor_6 : decode cX6_commonDivisor 6 = .ok (.iconst 0, 1) := by decide +kernel
theorem dX6_commonDivisor_7 : decode cX6_commonDivisor 7 = .ok (.istore 8, 2) := by decide +kernel
theorem dX6_commonDivisor_9 : decode cX6_commonDivisor 9 = .ok (.iload 8, 2) := by decide +kernel
theorem dX6_commonDivisor_11 : decode cX6_commonDivisor 11 = .ok (.sipush 200, 3) := by decide +kernel
theorem dX6_commonDivisor_14 : decode cX6_commonDivisor 14 = .ok (.if_icmp .ge 31, 3) := by decide +kernel
theorem dX6_commonDivisor_17 : decode cX6_commonDivisor 17 = .ok (.lload 6, 2) := by decide +kernel
theorem dX6_commonDivisor_19 : decode cX6_commonDivisor 19 = .ok (.lconst 0, 1) := by decide +kernel
theorem dX6_commonDivisor_20 : decode cX6_commonDivisor 20 = .ok (.lcmp, 1) := by decide +kernel
theorem dX6_commonDivisor_21 : decode cX6_commonDivisor 21 = .ok (.ifCond .eq 24, 3) := by decide +kernel
theorem dX6_commonDivisor_24 : decode cX6_commonDivisor 24 = .ok (.lload 4, 2) := by decide +kernel
theorem dX6_commonDivisor_26 : decode cX6_commonDivisor 26 = .ok (.lload 6, 2) := by decide +kernel
theorem dX6_commonDivisor_28 : decode cX6_commonDivisor 28 = .ok (.lrem, 1) := by decide +kernel
theorem dX6_commonDivisor_29 : decode cX6_commonDivisor 29 = .ok (.lstore 9, 2) := by decide +kernel
theorem dX6_commonDivisor_31 : decode cX6_commonDivisor 31 = .ok (.lload 6, 2) := by decide +kernel
theorem dX6_commonDivisor_33 : decode cX6_commonDivisor 33 = .ok (.lstore 4, 2) := by decide +kernel
theorem dX6_commonDivisor_35 : decode cX6_commonDivisor 35 = .ok (.lload 9, 2) := by decide +kernel
theorem dX6_commonDivisor_37 : decode cX6_commonDivisor 37 = .ok (.lstore 6, 2) := by decide +kernel
theorem dX6_commonDivisor_39 : decode cX6_commonDivisor 39 = .ok (.iinc 8 1, 3) := by decide +kernel
theorem dX6_commonDivisor_42 : decode cX6_commonDivisor 42 = .ok (.goto (-33), 3) := by decide +kernel
theorem dX6_commonDivisor_45 : decode cX6_commonDivisor 45 = .ok (.lload 4, 2) := by decide +kernel
theorem dX6_commonDivisor_47 : decode cX6_commonDivisor 47 = .ok (.lreturn, 1) := by decide +kernel
theorem dL_law_0 : decode cL_law 0 = .ok (.new 7, 3) := by decide +kernel
theorem dL_law_3 : decode cL_law 3 = .ok (.dup, 1) := by decide +kernel
theorem dL_law_4 : decode cL_law 4 = .ok (.invokespecial 9, 3) := by decide +kernel
theorem dL_law_7 : decode cL_law 7 = .ok (.astore_n 1, 1) := by decide +kernel
theorem dL_law_8 : decode cL_law 8 = .ok (.new 10, 3) := by decide +kernel
theorem dL_law_11 : decode cL_law 11 = .ok (.dup, 1) := by decide +kernel
theorem dL_law_12 : decode cL_law 12 = .ok (.invokespecial 12, 3) := by decide +kernel
theorem dL_law_15 : decode cL_law 15 = .ok (.astore_n 2, 1) := by decide +kernel
theorem dL_law_16 : decode cL_law 16 = .ok (.iconst 0, 1) := by decide +kernel
theorem dL_law_17 : decode cL_law 17 = .ok (.istore_n 3, 1) := by decide +kernel
theorem dL_law_18 : decode cL_law 18 = .ok (.iload_n 3, 1) := by decide +kernel
theorem dL_law_19 : decode cL_law 19 = .ok (.aload_n 0, 1) := by decide +kernel
theorem dL_law_20 : decode cL_law 20 = .ok (.arraylength, 1) := by decide +kernel
theorem dL_law_21 : decode cL_law 21 = .ok (.bipush 6, 2) := by decide +kernel
theorem dL_law_23 : decode cL_law 23 = .ok (.isub, 1) := by decide +kernel
theorem dL_law_24 : decode cL_law 24 = .ok (.if_icmp .gt 1092, 3) := by decide +kernel
theorem dL_law_27 : decode cL_law 27 = .ok (.aload_n 0, 1) := by decide +kernel
theorem dL_law_28 : decode cL_law 28 = .ok (.iload_n 3, 1) := by decide +kernel
theorem dL_law_29 : decode cL_law 29 = .ok (.iaload, 1) := by decide +kernel
theorem dL_law_30 : decode cL_law 30 = .ok (.bipush 31, 2) := by decide +kernel
theorem dL_law_32 : decode cL_law 32 = .ok (.iand, 1) := by decide +kernel
theorem dL_law_33 : decode cL_law 33 = .ok (.tableswitch 1077 0 26 #[123, 166, 209, 242, 265, 278, 301, 334, 357, 380, 404, 447, 480, 513, 567, 600, 643, 686, 729, 793, 806, 819, 842, 885, 928, 991, 1044], 123) := by decide +kernel
theorem dL_law_156 : decode cL_law 156 = .ok (.aload_n 1, 1) := by decide +kernel
theorem dL_law_157 : decode cL_law 157 = .ok (.aload_n 0, 1) := by decide +kernel
theorem dL_law_158 : decode cL_law 158 = .ok (.iload_n 3, 1) := by decide +kernel
theorem dL_law_159 : decode cL_law 159 = .ok (.iconst 1, 1) := by decide +kernel
theorem dL_law_160 : decode cL_law 160 = .ok (.iadd, 1) := by decide +kernel
theorem dL_law_161 : decode cL_law 161 = .ok (.iaload, 1) := by decide +kernel
theorem dL_law_162 : decode cL_law 162 = .ok (.aload_n 0, 1) := by decide +kernel
theorem dL_law_163 : decode cL_law 163 = .ok (.iload_n 3, 1) := by decide +kernel
theorem dL_law_164 : decode cL_law 164 = .ok (.iconst 2, 1) := by decide +kernel
theorem dL_law_165 : decode cL_law 165 = .ok (.iadd, 1) := by decide +kernel
theorem dL_law_166 : decode cL_law 166 = .ok (.iaload, 1) := by decide +kernel
theorem dL_law_167 : decode cL_law 167 = .ok (.aload_n 0, 1) := by decide +kernel
theorem dL_law_168 : decode cL_law 168 = .ok (.iload_n 3, 1) := by decide +kernel
theorem dL_law_169 : decode cL_law 169 = .ok (.iconst 3, 1) := by decide +kernel
theorem dL_law_170 : decode cL_law 170 = .ok (.iadd, 1) := by decide +kernel
theorem dL_law_171 : decode cL_law 171 = .ok (.iaload, 1) := by decide +kernel
theorem dL_law_172 : decode cL_law 172 = .ok (.invokevirtual 13, 3) := by decide +kernel
theorem dL_law_175 : decode cL_law 175 = .ok (.aload_n 2, 1) := by decide +kernel
theorem dL_law_176 : decode cL_law 176 = .ok (.aload_n 0, 1) := by decide +kernel
theorem dL_law_177 : decode cL_law 177 = .ok (.iload_n 3, 1) := by decide +kernel
theorem dL_law_178 : decode cL_law 178 = .ok (.iconst 1, 1) := by decide +kernel
theorem dL_law_179 : decode cL_law 179 = .ok (.iadd, 1) := by decide +kernel
theorem dL_law_180 : decode cL_law 180 = .ok (.iaload, 1) := by decide +kernel
theorem dL_law_181 : decode cL_law 181 = .ok (.aload_n 0, 1) := by decide +kernel
theorem dL_law_182 : decode cL_law 182 = .ok (.iload_n 3, 1) := by decide +kernel
theorem dL_law_183 : decode cL_law 183 = .ok (.iconst 2, 1) := by decide +kernel
theorem dL_law_184 : decode cL_law 184 = .ok (.iadd, 1) := by decide +kernel
theorem dL_law_185 : decode cL_law 185 = .ok (.iaload, 1) := by decide +kernel
theorem dL_law_186 : decode cL_law 186 = .ok (.aload_n 0, 1) := by decide +kernel
theorem dL_law_187 : decode cL_law 187 = .ok (.iload_n 3, 1) := by decide +kernel
theorem dL_law_188 : decode cL_law 188 = .ok (.iconst 3, 1) := by decide +kernel
theorem dL_law_189 : decode cL_law 189 = .ok (.iadd, 1) := by decide +kernel
theorem dL_law_190 : decode cL_law 190 = .ok (.iaload, 1) := by decide +kernel
theorem dL_law_191 : decode cL_law 191 = .ok (.invokevirtual 17, 3) := by decide +kernel
theorem dL_law_194 : decode cL_law 194 = .ok (.if_icmp .eq 916, 3) := by decide +kernel
theorem dL_law_197 : decode cL_law 197 = .ok (.iconst 0, 1) := by decide +kernel
theorem dL_law_198 : decode cL_law 198 = .ok (.ireturn, 1) := by decide +kernel
theorem dL_law_199 : decode cL_law 199 = .ok (.aload_n 1, 1) := by decide +kernel
theorem dL_law_200 : decode cL_law 200 = .ok (.aload_n 0, 1) := by decide +kernel
theorem dL_law_201 : decode cL_law 201 = .ok (.iload_n 3, 1) := by decide +kernel
theorem dL_law_202 : decode cL_law 202 = .ok (.iconst 1, 1) := by decide +kernel
theorem dL_law_203 : decode cL_law 203 = .ok (.iadd, 1) := by decide +kernel
theorem dL_law_204 : decode cL_law 204 = .ok (.iaload, 1) := by decide +kernel
theorem dL_law_205 : decode cL_law 205 = .ok (.aload_n 0, 1) := by decide +kernel
theorem dL_law_206 : decode cL_law 206 = .ok (.iload_n 3, 1) := by decide +kernel
theorem dL_law_207 : decode cL_law 207 = .ok (.iconst 2, 1) := by decide +kernel
theorem dL_law_208 : decode cL_law 208 = .ok (.iadd, 1) := by decide +kernel
theorem dL_law_209 : decode cL_law 209 = .ok (.iaload, 1) := by decide +kernel
theorem dL_law_210 : decode cL_law 210 = .ok (.aload_n 0, 1) := by decide +kernel
theorem dL_law_211 : decode cL_law 211 = .ok (.iload_n 3, 1) := by decide +kernel
theorem dL_law_212 : decode cL_law 212 = .ok (.iconst 3, 1) := by decide +kernel
theorem dL_law_213 : decode cL_law 213 = .ok (.iadd, 1) := by decide +kernel
theorem dL_law_214 : decode cL_law 214 = .ok (.iaload, 1) := by decide +kernel
theorem dL_law_215 : decode cL_law 215 = .ok (.invokevirtual 18, 3) := by decide +kernel
theorem dL_law_218 : decode cL_law 218 = .ok (.aload_n 2, 1) := by decide +kernel
theorem dL_law_219 : decode cL_law 219 = .ok (.aload_n 0, 1) := by decide +kernel
theorem dL_law_220 : decode cL_law 220 = .ok (.iload_n 3, 1) := by decide +kernel
theorem dL_law_221 : decode cL_law 221 = .ok (.iconst 1, 1) := by decide +kernel
theorem dL_law_222 : decode cL_law 222 = .ok (.iadd, 1) := by decide +kernel
theorem dL_law_223 : decode cL_law 223 = .ok (.iaload, 1) := by decide +kernel
theorem dL_law_224 : decode cL_law 224 = .ok (.aload_n 0, 1) := by decide +kernel
theorem dL_law_225 : decode cL_law 225 = .ok (.iload_n 3, 1) := by decide +kernel
theorem dL_law_226 : decode cL_law 226 = .ok (.iconst 2, 1) := by decide +kernel
theorem dL_law_227 : decode cL_law 227 = .ok (.iadd, 1) := by decide +kernel
theorem dL_law_228 : decode cL_law 228 = .ok (.iaload, 1) := by decide +kernel
theorem dL_law_229 : decode cL_law 229 = .ok (.aload_n 0, 1) := by decide +kernel
theorem dL_law_230 : decode cL_law 230 = .ok (.iload_n 3, 1) := by decide +kernel
theorem dL_law_231 : decode cL_law 231 = .ok (.iconst 3, 1) := by decide +kernel
theorem dL_law_232 : decode cL_law 232 = .ok (.iadd, 1) := by decide +kernel
theorem dL_law_233 : decode cL_law 233 = .ok (.iaload, 1) := by decide +kernel
theorem dL_law_234 : decode cL_law 234 = .ok (.invokevirtual 21, 3) := by decide +kernel
theorem dL_law_237 : decode cL_law 237 = .ok (.if_icmp .eq 873, 3) := by decide +kernel
theorem dL_law_240 : decode cL_law 240 = .ok (.iconst 0, 1) := by decide +kernel
theorem dL_law_241 : decode cL_law 241 = .ok (.ireturn, 1) := by decide +kernel
theorem dL_law_242 : decode cL_law 242 = .ok (.aload_n 1, 1) := by decide +kernel
theorem dL_law_243 : decode cL_law 243 = .ok (.aload_n 0, 1) := by decide +kernel
theorem dL_law_244 : decode cL_law 244 = .ok (.iload_n 3, 1) := by decide +kernel
theorem dL_law_245 : decode cL_law 245 = .ok (.iconst 1, 1) := by decide +kernel
theorem dL_law_246 : decode cL_law 246 = .ok (.iadd, 1) := by decide +kernel
theorem dL_law_247 : decode cL_law 247 = .ok (.iaload, 1) := by decide +kernel
theorem dL_law_248 : decode cL_law 248 = .ok (.aload_n 0, 1) := by decide +kernel
theorem dL_law_249 : decode cL_law 249 = .ok (.iload_n 3, 1) := by decide +kernel
theorem dL_law_250 : decode cL_law 250 = .ok (.iconst 2, 1) := by decide +kernel
theorem dL_law_251 : decode cL_law 251 = .ok (.iadd, 1) := by decide +kernel
theorem dL_law_252 : decode cL_law 252 = .ok (.iaload, 1) := by decide +kernel
theorem dL_law_253 : decode cL_law 253 = .ok (.invokevirtual 22, 3) := by decide +kernel
theorem dL_law_256 : decode cL_law 256 = .ok (.aload_n 2, 1) := by decide +kernel
theorem dL_law_257 : decode cL_law 257 = .ok (.aload_n 0, 1) := by decide +kernel
theorem dL_law_258 : decode cL_law 258 = .ok (.iload_n 3, 1) := by decide +kernel
theorem dL_law_259 : decode cL_law 259 = .ok (.iconst 1, 1) := by decide +kernel
theorem dL_law_260 : decode cL_law 260 = .ok (.iadd, 1) := by decide +kernel
theorem dL_law_261 : decode cL_law 261 = .ok (.iaload, 1) := by decide +kernel
theorem dL_law_262 : decode cL_law 262 = .ok (.aload_n 0, 1) := by decide +kernel
theorem dL_law_263 : decode cL_law 263 = .ok (.iload_n 3, 1) := by decide +kernel
theorem dL_law_264 : decode cL_law 264 = .ok (.iconst 2, 1) := by decide +kernel
theorem dL_law_265 : decode cL_law 265 = .ok (.iadd, 1) := by decide +kernel
theorem dL_law_266 : decode cL_law 266 = .ok (.iaload, 1) := by decide +kernel
theorem dL_law_267 : decode cL_law 267 = .ok (.invokevirtual 26, 3) := by decide +kernel
theorem dL_law_270 : decode cL_law 270 = .ok (.if_icmp .eq 840, 3) := by decide +kernel
theorem dL_law_273 : decode cL_law 273 = .ok (.iconst 0, 1) := by decide +kernel
theorem dL_law_274 : decode cL_law 274 = .ok (.ireturn, 1) := by decide +kernel
theorem dL_law_275 : decode cL_law 275 = .ok (.aload_n 1, 1) := by decide +kernel
theorem dL_law_276 : decode cL_law 276 = .ok (.aload_n 0, 1) := by decide +kernel
theorem dL_law_277 : decode cL_law 277 = .ok (.iload_n 3, 1) := by decide +kernel
theorem dL_law_278 : decode cL_law 278 = .ok (.iconst 1, 1) := by decide +kernel
theorem dL_law_279 : decode cL_law 279 = .ok (.iadd, 1) := by decide +kernel
theorem dL_law_280 : decode cL_law 280 = .ok (.iaload, 1) := by decide +kernel
theorem dL_law_281 : decode cL_law 281 = .ok (.invokevirtual 27, 3) := by decide +kernel
theorem dL_law_284 : decode cL_law 284 = .ok (.aload_n 2, 1) := by decide +kernel
theorem dL_law_285 : decode cL_law 285 = .ok (.aload_n 0, 1) := by decide +kernel
theorem dL_law_286 : decode cL_law 286 = .ok (.iload_n 3, 1) := by decide +kernel
theorem dL_law_287 : decode cL_law 287 = .ok (.iconst 1, 1) := by decide +kernel
theorem dL_law_288 : decode cL_law 288 = .ok (.iadd, 1) := by decide +kernel
theorem dL_law_289 : decode cL_law 289 = .ok (.iaload, 1) := by decide +kernel
theorem dL_law_290 : decode cL_law 290 = .ok (.invokevirtual 31, 3) := by decide +kernel
theorem dL_law_293 : decode cL_law 293 = .ok (.if_icmp .eq 817, 3) := by decide +kernel
theorem dL_law_296 : decode cL_law 296 = .ok (.iconst 0, 1) := by decide +kernel
theorem dL_law_297 : decode cL_law 297 = .ok (.ireturn, 1) := by decide +kernel
theorem dL_law_298 : decode cL_law 298 = .ok (.aload_n 1, 1) := by decide +kernel
theorem dL_law_299 : decode cL_law 299 = .ok (.invokevirtual 32, 3) := by decide +kernel
theorem dL_law_302 : decode cL_law 302 = .ok (.aload_n 2, 1) := by decide +kernel
theorem dL_law_303 : decode cL_law 303 = .ok (.invokevirtual 36, 3) := by decide +kernel
theorem dL_law_306 : decode cL_law 306 = .ok (.if_icmp .eq 804, 3) := by decide +kernel
theorem dL_law_309 : decode cL_law 309 = .ok (.iconst 0, 1) := by decide +kernel
theorem dL_law_310 : decode cL_law 310 = .ok (.ireturn, 1) := by decide +kernel
theorem dL_law_311 : decode cL_law 311 = .ok (.aload_n 1, 1) := by decide +kernel
theorem dL_law_312 : decode cL_law 312 = .ok (.aload_n 0, 1) := by decide +kernel
theorem dL_law_313 : decode cL_law 313 = .ok (.iload_n 3, 1) := by decide +kernel
theorem dL_law_314 : decode cL_law 314 = .ok (.iconst 1, 1) := by decide +kernel
theorem dL_law_315 : decode cL_law 315 = .ok (.iadd, 1) := by decide +kernel
theorem dL_law_316 : decode cL_law 316 = .ok (.iaload, 1) := by decide +kernel
theorem dL_law_317 : decode cL_law 317 = .ok (.invokevirtual 37, 3) := by decide +kernel
theorem dL_law_320 : decode cL_law 320 = .ok (.aload_n 2, 1) := by decide +kernel
theorem dL_law_321 : decode cL_law 321 = .ok (.aload_n 0, 1) := by decide +kernel
theorem dL_law_322 : decode cL_law 322 = .ok (.iload_n 3, 1) := by decide +kernel
theorem dL_law_323 : decode cL_law 323 = .ok (.iconst 1, 1) := by decide +kernel
theorem dL_law_324 : decode cL_law 324 = .ok (.iadd, 1) := by decide +kernel
theorem dL_law_325 : decode cL_law 325 = .ok (.iaload, 1) := by decide +kernel
theorem dL_law_326 : decode cL_law 326 = .ok (.invokevirtual 40, 3) := by decide +kernel
theorem dL_law_329 : decode cL_law 329 = .ok (.if_icmp .eq 781, 3) := by decide +kernel
theorem dL_law_332 : decode cL_law 332 = .ok (.iconst 0, 1) := by decide +kernel
theorem dL_law_333 : decode cL_law 333 = .ok (.ireturn, 1) := by decide +kernel
theorem dL_law_334 : decode cL_law 334 = .ok (.aload_n 1, 1) := by decide +kernel
theorem dL_law_335 : decode cL_law 335 = .ok (.aload_n 0, 1) := by decide +kernel
theorem dL_law_336 : decode cL_law 336 = .ok (.iload_n 3, 1) := by decide +kernel
theorem dL_law_337 : decode cL_law 337 = .ok (.iconst 1, 1) := by decide +kernel
theorem dL_law_338 : decode cL_law 338 = .ok (.iadd, 1) := by decide +kernel
theorem dL_law_339 : decode cL_law 339 = .ok (.iaload, 1) := by decide +kernel
theorem dL_law_340 : decode cL_law 340 = .ok (.aload_n 0, 1) := by decide +kernel
theorem dL_law_341 : decode cL_law 341 = .ok (.iload_n 3, 1) := by decide +kernel
theorem dL_law_342 : decode cL_law 342 = .ok (.iconst 2, 1) := by decide +kernel
theorem dL_law_343 : decode cL_law 343 = .ok (.iadd, 1) := by decide +kernel
theorem dL_law_344 : decode cL_law 344 = .ok (.iaload, 1) := by decide +kernel
theorem dL_law_345 : decode cL_law 345 = .ok (.invokevirtual 41, 3) := by decide +kernel
theorem dL_law_348 : decode cL_law 348 = .ok (.aload_n 2, 1) := by decide +kernel
theorem dL_law_349 : decode cL_law 349 = .ok (.aload_n 0, 1) := by decide +kernel
theorem dL_law_350 : decode cL_law 350 = .ok (.iload_n 3, 1) := by decide +kernel
theorem dL_law_351 : decode cL_law 351 = .ok (.iconst 1, 1) := by decide +kernel
theorem dL_law_352 : decode cL_law 352 = .ok (.iadd, 1) := by decide +kernel
theorem dL_law_353 : decode cL_law 353 = .ok (.iaload, 1) := by decide +kernel
theorem dL_law_354 : decode cL_law 354 = .ok (.aload_n 0, 1) := by decide +kernel
theorem dL_law_355 : decode cL_law 355 = .ok (.iload_n 3, 1) := by decide +kernel
theorem dL_law_356 : decode cL_law 356 = .ok (.iconst 2, 1) := by decide +kernel
theorem dL_law_357 : decode cL_law 357 = .ok (.iadd, 1) := by decide +kernel
theorem dL_law_358 : decode cL_law 358 = .ok (.iaload, 1) := by decide +kernel
theorem dL_law_359 : decode cL_law 359 = .ok (.invokevirtual 44, 3) := by decide +kernel
theorem dL_law_362 : decode cL_law 362 = .ok (.if_icmp .eq 748, 3) := by decide +kernel
theorem dL_law_365 : decode cL_law 365 = .ok (.iconst 0, 1) := by decide +kernel
theorem dL_law_366 : decode cL_law 366 = .ok (.ireturn, 1) := by decide +kernel
theorem dL_law_367 : decode cL_law 367 = .ok (.aload_n 1, 1) := by decide +kernel
theorem dL_law_368 : decode cL_law 368 = .ok (.aload_n 0, 1) := by decide +kernel
theorem dL_law_369 : decode cL_law 369 = .ok (.iload_n 3, 1) := by decide +kernel
theorem dL_law_370 : decode cL_law 370 = .ok (.iconst 1, 1) := by decide +kernel
theorem dL_law_371 : decode cL_law 371 = .ok (.iadd, 1) := by decide +kernel
theorem dL_law_372 : decode cL_law 372 = .ok (.iaload, 1) := by decide +kernel
theorem dL_law_373 : decode cL_law 373 = .ok (.invokevirtual 45, 3) := by decide +kernel
theorem dL_law_376 : decode cL_law 376 = .ok (.aload_n 2, 1) := by decide +kernel
theorem dL_law_377 : decode cL_law 377 = .ok (.aload_n 0, 1) := by decide +kernel
theorem dL_law_378 : decode cL_law 378 = .ok (.iload_n 3, 1) := by decide +kernel
theorem dL_law_379 : decode cL_law 379 = .ok (.iconst 1, 1) := by decide +kernel
theorem dL_law_380 : decode cL_law 380 = .ok (.iadd, 1) := by decide +kernel
theorem dL_law_381 : decode cL_law 381 = .ok (.iaload, 1) := by decide +kernel
theorem dL_law_382 : decode cL_law 382 = .ok (.invokevirtual 48, 3) := by decide +kernel
theorem dL_law_385 : decode cL_law 385 = .ok (.if_icmp .eq 725, 3) := by decide +kernel
theorem dL_law_388 : decode cL_law 388 = .ok (.iconst 0, 1) := by decide +kernel
theorem dL_law_389 : decode cL_law 389 = .ok (.ireturn, 1) := by decide +kernel
theorem dL_law_390 : decode cL_law 390 = .ok (.aload_n 1, 1) := by decide +kernel
theorem dL_law_391 : decode cL_law 391 = .ok (.aload_n 0, 1) := by decide +kernel
theorem dL_law_392 : decode cL_law 392 = .ok (.iload_n 3, 1) := by decide +kernel
theorem dL_law_393 : decode cL_law 393 = .ok (.iconst 1, 1) := by decide +kernel
theorem dL_law_394 : decode cL_law 394 = .ok (.iadd, 1) := by decide +kernel
theorem dL_law_395 : decode cL_law 395 = .ok (.iaload, 1) := by decide +kernel
theorem dL_law_396 : decode cL_law 396 = .ok (.invokevirtual 49, 3) := by decide +kernel
theorem dL_law_399 : decode cL_law 399 = .ok (.aload_n 2, 1) := by decide +kernel
theorem dL_law_400 : decode cL_law 400 = .ok (.aload_n 0, 1) := by decide +kernel
theorem dL_law_401 : decode cL_law 401 = .ok (.iload_n 3, 1) := by decide +kernel
theorem dL_law_402 : decode cL_law 402 = .ok (.iconst 1, 1) := by decide +kernel
theorem dL_law_403 : decode cL_law 403 = .ok (.iadd, 1) := by decide +kernel
theorem dL_law_404 : decode cL_law 404 = .ok (.iaload, 1) := by decide +kernel
theorem dL_law_405 : decode cL_law 405 = .ok (.invokevirtual 52, 3) := by decide +kernel
theorem dL_law_408 : decode cL_law 408 = .ok (.if_icmp .eq 702, 3) := by decide +kernel
theorem dL_law_411 : decode cL_law 411 = .ok (.iconst 0, 1) := by decide +kernel
theorem dL_law_412 : decode cL_law 412 = .ok (.ireturn, 1) := by decide +kernel
theorem dL_law_413 : decode cL_law 413 = .ok (.aload_n 1, 1) := by decide +kernel
theorem dL_law_414 : decode cL_law 414 = .ok (.aload_n 0, 1) := by decide +kernel
theorem dL_law_415 : decode cL_law 415 = .ok (.iload_n 3, 1) := by decide +kernel
theorem dL_law_416 : decode cL_law 416 = .ok (.iconst 1, 1) := by decide +kernel
theorem dL_law_417 : decode cL_law 417 = .ok (.iadd, 1) := by decide +kernel
theorem dL_law_418 : decode cL_law 418 = .ok (.iaload, 1) := by decide +kernel
theorem dL_law_419 : decode cL_law 419 = .ok (.invokevirtual 53, 3) := by decide +kernel
theorem dL_law_422 : decode cL_law 422 = .ok (.aload_n 2, 1) := by decide +kernel
theorem dL_law_423 : decode cL_law 423 = .ok (.aload_n 0, 1) := by decide +kernel
theorem dL_law_424 : decode cL_law 424 = .ok (.iload_n 3, 1) := by decide +kernel
theorem dL_law_425 : decode cL_law 425 = .ok (.iconst 1, 1) := by decide +kernel
theorem dL_law_426 : decode cL_law 426 = .ok (.iadd, 1) := by decide +kernel
theorem dL_law_427 : decode cL_law 427 = .ok (.iaload, 1) := by decide +kernel
theorem dL_law_428 : decode cL_law 428 = .ok (.invokevirtual 57, 3) := by decide +kernel
theorem dL_law_431 : decode cL_law 431 = .ok (.lcmp, 1) := by decide +kernel
theorem dL_law_432 : decode cL_law 432 = .ok (.ifCond .eq 678, 3) := by decide +kernel
theorem dL_law_435 : decode cL_law 435 = .ok (.iconst 0, 1) := by decide +kernel
theorem dL_law_436 : decode cL_law 436 = .ok (.ireturn, 1) := by decide +kernel
theorem dL_law_437 : decode cL_law 437 = .ok (.aload_n 1, 1) := by decide +kernel
theorem dL_law_438 : decode cL_law 438 = .ok (.aload_n 0, 1) := by decide +kernel
theorem dL_law_439 : decode cL_law 439 = .ok (.iload_n 3, 1) := by decide +kernel
theorem dL_law_440 : decode cL_law 440 = .ok (.iconst 1, 1) := by decide +kernel
theorem dL_law_441 : decode cL_law 441 = .ok (.iadd, 1) := by decide +kernel
theorem dL_law_442 : decode cL_law 442 = .ok (.iaload, 1) := by decide +kernel
theorem dL_law_443 : decode cL_law 443 = .ok (.aload_n 0, 1) := by decide +kernel
theorem dL_law_444 : decode cL_law 444 = .ok (.iload_n 3, 1) := by decide +kernel
theorem dL_law_445 : decode cL_law 445 = .ok (.iconst 2, 1) := by decide +kernel
theorem dL_law_446 : decode cL_law 446 = .ok (.iadd, 1) := by decide +kernel
theorem dL_law_447 : decode cL_law 447 = .ok (.iaload, 1) := by decide +kernel
theorem dL_law_448 : decode cL_law 448 = .ok (.aload_n 0, 1) := by decide +kernel
theorem dL_law_449 : decode cL_law 449 = .ok (.iload_n 3, 1) := by decide +kernel
theorem dL_law_450 : decode cL_law 450 = .ok (.iconst 3, 1) := by decide +kernel
theorem dL_law_451 : decode cL_law 451 = .ok (.iadd, 1) := by decide +kernel
theorem dL_law_452 : decode cL_law 452 = .ok (.iaload, 1) := by decide +kernel
theorem dL_law_453 : decode cL_law 453 = .ok (.invokevirtual 58, 3) := by decide +kernel
theorem dL_law_456 : decode cL_law 456 = .ok (.aload_n 2, 1) := by decide +kernel
theorem dL_law_457 : decode cL_law 457 = .ok (.aload_n 0, 1) := by decide +kernel
theorem dL_law_458 : decode cL_law 458 = .ok (.iload_n 3, 1) := by decide +kernel
theorem dL_law_459 : decode cL_law 459 = .ok (.iconst 1, 1) := by decide +kernel
theorem dL_law_460 : decode cL_law 460 = .ok (.iadd, 1) := by decide +kernel
theorem dL_law_461 : decode cL_law 461 = .ok (.iaload, 1) := by decide +kernel
theorem dL_law_462 : decode cL_law 462 = .ok (.aload_n 0, 1) := by decide +kernel
theorem dL_law_463 : decode cL_law 463 = .ok (.iload_n 3, 1) := by decide +kernel
theorem dL_law_464 : decode cL_law 464 = .ok (.iconst 2, 1) := by decide +kernel
theorem dL_law_465 : decode cL_law 465 = .ok (.iadd, 1) := by decide +kernel
theorem dL_law_466 : decode cL_law 466 = .ok (.iaload, 1) := by decide +kernel
theorem dL_law_467 : decode cL_law 467 = .ok (.aload_n 0, 1) := by decide +kernel
theorem dL_law_468 : decode cL_law 468 = .ok (.iload_n 3, 1) := by decide +kernel
theorem dL_law_469 : decode cL_law 469 = .ok (.iconst 3, 1) := by decide +kernel
theorem dL_law_470 : decode cL_law 470 = .ok (.iadd, 1) := by decide +kernel
theorem dL_law_471 : decode cL_law 471 = .ok (.iaload, 1) := by decide +kernel
theorem dL_law_472 : decode cL_law 472 = .ok (.invokevirtual 61, 3) := by decide +kernel
theorem dL_law_475 : decode cL_law 475 = .ok (.if_icmp .eq 635, 3) := by decide +kernel
theorem dL_law_478 : decode cL_law 478 = .ok (.iconst 0, 1) := by decide +kernel
theorem dL_law_479 : decode cL_law 479 = .ok (.ireturn, 1) := by decide +kernel
theorem dL_law_480 : decode cL_law 480 = .ok (.aload_n 1, 1) := by decide +kernel
theorem dL_law_481 : decode cL_law 481 = .ok (.aload_n 0, 1) := by decide +kernel
theorem dL_law_482 : decode cL_law 482 = .ok (.iload_n 3, 1) := by decide +kernel
theorem dL_law_483 : decode cL_law 483 = .ok (.iconst 1, 1) := by decide +kernel
theorem dL_law_484 : decode cL_law 484 = .ok (.iadd, 1) := by decide +kernel
theorem dL_law_485 : decode cL_law 485 = .ok (.iaload, 1) := by decide +kernel
theorem dL_law_486 : decode cL_law 486 = .ok (.aload_n 0, 1) := by decide +kernel
theorem dL_law_487 : decode cL_law 487 = .ok (.iload_n 3, 1) := by decide +kernel
theorem dL_law_488 : decode cL_law 488 = .ok (.iconst 2, 1) := by decide +kernel
theorem dL_law_489 : decode cL_law 489 = .ok (.iadd, 1) := by decide +kernel
theorem dL_law_490 : decode cL_law 490 = .ok (.iaload, 1) := by decide +kernel
theorem dL_law_491 : decode cL_law 491 = .ok (.invokevirtual 62, 3) := by decide +kernel
theorem dL_law_494 : decode cL_law 494 = .ok (.aload_n 2, 1) := by decide +kernel
theorem dL_law_495 : decode cL_law 495 = .ok (.aload_n 0, 1) := by decide +kernel
theorem dL_law_496 : decode cL_law 496 = .ok (.iload_n 3, 1) := by decide +kernel
theorem dL_law_497 : decode cL_law 497 = .ok (.iconst 1, 1) := by decide +kernel
theorem dL_law_498 : decode cL_law 498 = .ok (.iadd, 1) := by decide +kernel
theorem dL_law_499 : decode cL_law 499 = .ok (.iaload, 1) := by decide +kernel
theorem dL_law_500 : decode cL_law 500 = .ok (.aload_n 0, 1) := by decide +kernel
theorem dL_law_501 : decode cL_law 501 = .ok (.iload_n 3, 1) := by decide +kernel
theorem dL_law_502 : decode cL_law 502 = .ok (.iconst 2, 1) := by decide +kernel
theorem dL_law_503 : decode cL_law 503 = .ok (.iadd, 1) := by decide +kernel
theorem dL_law_504 : decode cL_law 504 = .ok (.iaload, 1) := by decide +kernel
theorem dL_law_505 : decode cL_law 505 = .ok (.invokevirtual 65, 3) := by decide +kernel
theorem dL_law_508 : decode cL_law 508 = .ok (.if_icmp .eq 602, 3) := by decide +kernel
theorem dL_law_511 : decode cL_law 511 = .ok (.iconst 0, 1) := by decide +kernel
theorem dL_law_512 : decode cL_law 512 = .ok (.ireturn, 1) := by decide +kernel
theorem dL_law_513 : decode cL_law 513 = .ok (.aload_n 1, 1) := by decide +kernel
theorem dL_law_514 : decode cL_law 514 = .ok (.aload_n 0, 1) := by decide +kernel
theorem dL_law_515 : decode cL_law 515 = .ok (.iload_n 3, 1) := by decide +kernel
theorem dL_law_516 : decode cL_law 516 = .ok (.iconst 1, 1) := by decide +kernel
theorem dL_law_517 : decode cL_law 517 = .ok (.iadd, 1) := by decide +kernel
theorem dL_law_518 : decode cL_law 518 = .ok (.iaload, 1) := by decide +kernel
theorem dL_law_519 : decode cL_law 519 = .ok (.aload_n 0, 1) := by decide +kernel
theorem dL_law_520 : decode cL_law 520 = .ok (.iload_n 3, 1) := by decide +kernel
theorem dL_law_521 : decode cL_law 521 = .ok (.iconst 2, 1) := by decide +kernel
theorem dL_law_522 : decode cL_law 522 = .ok (.iadd, 1) := by decide +kernel
theorem dL_law_523 : decode cL_law 523 = .ok (.iaload, 1) := by decide +kernel
theorem dL_law_524 : decode cL_law 524 = .ok (.invokevirtual 66, 3) := by decide +kernel
theorem dL_law_527 : decode cL_law 527 = .ok (.aload_n 2, 1) := by decide +kernel
theorem dL_law_528 : decode cL_law 528 = .ok (.aload_n 0, 1) := by decide +kernel
theorem dL_law_529 : decode cL_law 529 = .ok (.iload_n 3, 1) := by decide +kernel
theorem dL_law_530 : decode cL_law 530 = .ok (.iconst 1, 1) := by decide +kernel
theorem dL_law_531 : decode cL_law 531 = .ok (.iadd, 1) := by decide +kernel
theorem dL_law_532 : decode cL_law 532 = .ok (.iaload, 1) := by decide +kernel
theorem dL_law_533 : decode cL_law 533 = .ok (.aload_n 0, 1) := by decide +kernel
theorem dL_law_534 : decode cL_law 534 = .ok (.iload_n 3, 1) := by decide +kernel
theorem dL_law_535 : decode cL_law 535 = .ok (.iconst 2, 1) := by decide +kernel
theorem dL_law_536 : decode cL_law 536 = .ok (.iadd, 1) := by decide +kernel
theorem dL_law_537 : decode cL_law 537 = .ok (.iaload, 1) := by decide +kernel
theorem dL_law_538 : decode cL_law 538 = .ok (.invokevirtual 69, 3) := by decide +kernel
theorem dL_law_541 : decode cL_law 541 = .ok (.if_icmp .eq 569, 3) := by decide +kernel
theorem dL_law_544 : decode cL_law 544 = .ok (.iconst 0, 1) := by decide +kernel
theorem dL_law_545 : decode cL_law 545 = .ok (.ireturn, 1) := by decide +kernel
theorem dL_law_546 : decode cL_law 546 = .ok (.aload_n 1, 1) := by decide +kernel
theorem dL_law_547 : decode cL_law 547 = .ok (.aload_n 0, 1) := by decide +kernel
theorem dL_law_548 : decode cL_law 548 = .ok (.iload_n 3, 1) := by decide +kernel
theorem dL_law_549 : decode cL_law 549 = .ok (.iconst 1, 1) := by decide +kernel
theorem dL_law_550 : decode cL_law 550 = .ok (.iadd, 1) := by decide +kernel
theorem dL_law_551 : decode cL_law 551 = .ok (.iaload, 1) := by decide +kernel
theorem dL_law_552 : decode cL_law 552 = .ok (.aload_n 0, 1) := by decide +kernel
theorem dL_law_553 : decode cL_law 553 = .ok (.iload_n 3, 1) := by decide +kernel
theorem dL_law_554 : decode cL_law 554 = .ok (.iconst 2, 1) := by decide +kernel
theorem dL_law_555 : decode cL_law 555 = .ok (.iadd, 1) := by decide +kernel
theorem dL_law_556 : decode cL_law 556 = .ok (.iaload, 1) := by decide +kernel
theorem dL_law_557 : decode cL_law 557 = .ok (.aload_n 0, 1) := by decide +kernel
theorem dL_law_558 : decode cL_law 558 = .ok (.iload_n 3, 1) := by decide +kernel
theorem dL_law_559 : decode cL_law 559 = .ok (.iconst 3, 1) := by decide +kernel
theorem dL_law_560 : decode cL_law 560 = .ok (.iadd, 1) := by decide +kernel
theorem dL_law_561 : decode cL_law 561 = .ok (.iaload, 1) := by decide +kernel
theorem dL_law_562 : decode cL_law 562 = .ok (.aload_n 0, 1) := by decide +kernel
theorem dL_law_563 : decode cL_law 563 = .ok (.iload_n 3, 1) := by decide +kernel
theorem dL_law_564 : decode cL_law 564 = .ok (.iconst 4, 1) := by decide +kernel
theorem dL_law_565 : decode cL_law 565 = .ok (.iadd, 1) := by decide +kernel
theorem dL_law_566 : decode cL_law 566 = .ok (.iaload, 1) := by decide +kernel
theorem dL_law_567 : decode cL_law 567 = .ok (.invokevirtual 70, 3) := by decide +kernel
theorem dL_law_570 : decode cL_law 570 = .ok (.aload_n 2, 1) := by decide +kernel
theorem dL_law_571 : decode cL_law 571 = .ok (.aload_n 0, 1) := by decide +kernel
theorem dL_law_572 : decode cL_law 572 = .ok (.iload_n 3, 1) := by decide +kernel
theorem dL_law_573 : decode cL_law 573 = .ok (.iconst 1, 1) := by decide +kernel
theorem dL_law_574 : decode cL_law 574 = .ok (.iadd, 1) := by decide +kernel
theorem dL_law_575 : decode cL_law 575 = .ok (.iaload, 1) := by decide +kernel
theorem dL_law_576 : decode cL_law 576 = .ok (.aload_n 0, 1) := by decide +kernel
theorem dL_law_577 : decode cL_law 577 = .ok (.iload_n 3, 1) := by decide +kernel
theorem dL_law_578 : decode cL_law 578 = .ok (.iconst 2, 1) := by decide +kernel
theorem dL_law_579 : decode cL_law 579 = .ok (.iadd, 1) := by decide +kernel
theorem dL_law_580 : decode cL_law 580 = .ok (.iaload, 1) := by decide +kernel
theorem dL_law_581 : decode cL_law 581 = .ok (.aload_n 0, 1) := by decide +kernel
theorem dL_law_582 : decode cL_law 582 = .ok (.iload_n 3, 1) := by decide +kernel
theorem dL_law_583 : decode cL_law 583 = .ok (.iconst 3, 1) := by decide +kernel
theorem dL_law_584 : decode cL_law 584 = .ok (.iadd, 1) := by decide +kernel
theorem dL_law_585 : decode cL_law 585 = .ok (.iaload, 1) := by decide +kernel
theorem dL_law_586 : decode cL_law 586 = .ok (.aload_n 0, 1) := by decide +kernel
theorem dL_law_587 : decode cL_law 587 = .ok (.iload_n 3, 1) := by decide +kernel
theorem dL_law_588 : decode cL_law 588 = .ok (.iconst 4, 1) := by decide +kernel
theorem dL_law_589 : decode cL_law 589 = .ok (.iadd, 1) := by decide +kernel
theorem dL_law_590 : decode cL_law 590 = .ok (.iaload, 1) := by decide +kernel
theorem dL_law_591 : decode cL_law 591 = .ok (.invokevirtual 74, 3) := by decide +kernel
theorem dL_law_594 : decode cL_law 594 = .ok (.lcmp, 1) := by decide +kernel
theorem dL_law_595 : decode cL_law 595 = .ok (.ifCond .eq 515, 3) := by decide +kernel
theorem dL_law_598 : decode cL_law 598 = .ok (.iconst 0, 1) := by decide +kernel
theorem dL_law_599 : decode cL_law 599 = .ok (.ireturn, 1) := by decide +kernel
theorem dL_law_600 : decode cL_law 600 = .ok (.aload_n 1, 1) := by decide +kernel
theorem dL_law_601 : decode cL_law 601 = .ok (.aload_n 0, 1) := by decide +kernel
theorem dL_law_602 : decode cL_law 602 = .ok (.iload_n 3, 1) := by decide +kernel
theorem dL_law_603 : decode cL_law 603 = .ok (.iconst 1, 1) := by decide +kernel
theorem dL_law_604 : decode cL_law 604 = .ok (.iadd, 1) := by decide +kernel
theorem dL_law_605 : decode cL_law 605 = .ok (.iaload, 1) := by decide +kernel
theorem dL_law_606 : decode cL_law 606 = .ok (.aload_n 0, 1) := by decide +kernel
theorem dL_law_607 : decode cL_law 607 = .ok (.iload_n 3, 1) := by decide +kernel
theorem dL_law_608 : decode cL_law 608 = .ok (.iconst 2, 1) := by decide +kernel
theorem dL_law_609 : decode cL_law 609 = .ok (.iadd, 1) := by decide +kernel
theorem dL_law_610 : decode cL_law 610 = .ok (.iaload, 1) := by decide +kernel
theorem dL_law_611 : decode cL_law 611 = .ok (.invokevirtual 75, 3) := by decide +kernel
theorem dL_law_614 : decode cL_law 614 = .ok (.aload_n 2, 1) := by decide +kernel
theorem dL_law_615 : decode cL_law 615 = .ok (.aload_n 0, 1) := by decide +kernel
theorem dL_law_616 : decode cL_law 616 = .ok (.iload_n 3, 1) := by decide +kernel
theorem dL_law_617 : decode cL_law 617 = .ok (.iconst 1, 1) := by decide +kernel
theorem dL_law_618 : decode cL_law 618 = .ok (.iadd, 1) := by decide +kernel
theorem dL_law_619 : decode cL_law 619 = .ok (.iaload, 1) := by decide +kernel
theorem dL_law_620 : decode cL_law 620 = .ok (.aload_n 0, 1) := by decide +kernel
theorem dL_law_621 : decode cL_law 621 = .ok (.iload_n 3, 1) := by decide +kernel
theorem dL_law_622 : decode cL_law 622 = .ok (.iconst 2, 1) := by decide +kernel
theorem dL_law_623 : decode cL_law 623 = .ok (.iadd, 1) := by decide +kernel
theorem dL_law_624 : decode cL_law 624 = .ok (.iaload, 1) := by decide +kernel
theorem dL_law_625 : decode cL_law 625 = .ok (.invokevirtual 78, 3) := by decide +kernel
theorem dL_law_628 : decode cL_law 628 = .ok (.if_icmp .eq 482, 3) := by decide +kernel
theorem dL_law_631 : decode cL_law 631 = .ok (.iconst 0, 1) := by decide +kernel
theorem dL_law_632 : decode cL_law 632 = .ok (.ireturn, 1) := by decide +kernel
theorem dL_law_633 : decode cL_law 633 = .ok (.aload_n 1, 1) := by decide +kernel
theorem dL_law_634 : decode cL_law 634 = .ok (.aload_n 0, 1) := by decide +kernel
theorem dL_law_635 : decode cL_law 635 = .ok (.iload_n 3, 1) := by decide +kernel
theorem dL_law_636 : decode cL_law 636 = .ok (.iconst 1, 1) := by decide +kernel
theorem dL_law_637 : decode cL_law 637 = .ok (.iadd, 1) := by decide +kernel
theorem dL_law_638 : decode cL_law 638 = .ok (.iaload, 1) := by decide +kernel
theorem dL_law_639 : decode cL_law 639 = .ok (.aload_n 0, 1) := by decide +kernel
theorem dL_law_640 : decode cL_law 640 = .ok (.iload_n 3, 1) := by decide +kernel
theorem dL_law_641 : decode cL_law 641 = .ok (.iconst 2, 1) := by decide +kernel
theorem dL_law_642 : decode cL_law 642 = .ok (.iadd, 1) := by decide +kernel
theorem dL_law_643 : decode cL_law 643 = .ok (.iaload, 1) := by decide +kernel
theorem dL_law_644 : decode cL_law 644 = .ok (.aload_n 0, 1) := by decide +kernel
theorem dL_law_645 : decode cL_law 645 = .ok (.iload_n 3, 1) := by decide +kernel
theorem dL_law_646 : decode cL_law 646 = .ok (.iconst 3, 1) := by decide +kernel
theorem dL_law_647 : decode cL_law 647 = .ok (.iadd, 1) := by decide +kernel
theorem dL_law_648 : decode cL_law 648 = .ok (.iaload, 1) := by decide +kernel
theorem dL_law_649 : decode cL_law 649 = .ok (.invokevirtual 79, 3) := by decide +kernel
theorem dL_law_652 : decode cL_law 652 = .ok (.aload_n 2, 1) := by decide +kernel
theorem dL_law_653 : decode cL_law 653 = .ok (.aload_n 0, 1) := by decide +kernel
theorem dL_law_654 : decode cL_law 654 = .ok (.iload_n 3, 1) := by decide +kernel
theorem dL_law_655 : decode cL_law 655 = .ok (.iconst 1, 1) := by decide +kernel
theorem dL_law_656 : decode cL_law 656 = .ok (.iadd, 1) := by decide +kernel
theorem dL_law_657 : decode cL_law 657 = .ok (.iaload, 1) := by decide +kernel
theorem dL_law_658 : decode cL_law 658 = .ok (.aload_n 0, 1) := by decide +kernel
theorem dL_law_659 : decode cL_law 659 = .ok (.iload_n 3, 1) := by decide +kernel
theorem dL_law_660 : decode cL_law 660 = .ok (.iconst 2, 1) := by decide +kernel
theorem dL_law_661 : decode cL_law 661 = .ok (.iadd, 1) := by decide +kernel
theorem dL_law_662 : decode cL_law 662 = .ok (.iaload, 1) := by decide +kernel
theorem dL_law_663 : decode cL_law 663 = .ok (.aload_n 0, 1) := by decide +kernel
theorem dL_law_664 : decode cL_law 664 = .ok (.iload_n 3, 1) := by decide +kernel
theorem dL_law_665 : decode cL_law 665 = .ok (.iconst 3, 1) := by decide +kernel
theorem dL_law_666 : decode cL_law 666 = .ok (.iadd, 1) := by decide +kernel
theorem dL_law_667 : decode cL_law 667 = .ok (.iaload, 1) := by decide +kernel
theorem dL_law_668 : decode cL_law 668 = .ok (.invokevirtual 82, 3) := by decide +kernel
theorem dL_law_671 : decode cL_law 671 = .ok (.if_icmp .eq 439, 3) := by decide +kernel
theorem dL_law_674 : decode cL_law 674 = .ok (.iconst 0, 1) := by decide +kernel
theorem dL_law_675 : decode cL_law 675 = .ok (.ireturn, 1) := by decide +kernel
theorem dL_law_676 : decode cL_law 676 = .ok (.aload_n 1, 1) := by decide +kernel
theorem dL_law_677 : decode cL_law 677 = .ok (.aload_n 0, 1) := by decide +kernel
theorem dL_law_678 : decode cL_law 678 = .ok (.iload_n 3, 1) := by decide +kernel
theorem dL_law_679 : decode cL_law 679 = .ok (.iconst 1, 1) := by decide +kernel
theorem dL_law_680 : decode cL_law 680 = .ok (.iadd, 1) := by decide +kernel
theorem dL_law_681 : decode cL_law 681 = .ok (.iaload, 1) := by decide +kernel
theorem dL_law_682 : decode cL_law 682 = .ok (.aload_n 0, 1) := by decide +kernel
theorem dL_law_683 : decode cL_law 683 = .ok (.iload_n 3, 1) := by decide +kernel
theorem dL_law_684 : decode cL_law 684 = .ok (.iconst 2, 1) := by decide +kernel
theorem dL_law_685 : decode cL_law 685 = .ok (.iadd, 1) := by decide +kernel
theorem dL_law_686 : decode cL_law 686 = .ok (.iaload, 1) := by decide +kernel
theorem dL_law_687 : decode cL_law 687 = .ok (.aload_n 0, 1) := by decide +kernel
theorem dL_law_688 : decode cL_law 688 = .ok (.iload_n 3, 1) := by decide +kernel
theorem dL_law_689 : decode cL_law 689 = .ok (.iconst 3, 1) := by decide +kernel
theorem dL_law_690 : decode cL_law 690 = .ok (.iadd, 1) := by decide +kernel
theorem dL_law_691 : decode cL_law 691 = .ok (.iaload, 1) := by decide +kernel
theorem dL_law_692 : decode cL_law 692 = .ok (.invokevirtual 83, 3) := by decide +kernel
theorem dL_law_695 : decode cL_law 695 = .ok (.aload_n 2, 1) := by decide +kernel
theorem dL_law_696 : decode cL_law 696 = .ok (.aload_n 0, 1) := by decide +kernel
theorem dL_law_697 : decode cL_law 697 = .ok (.iload_n 3, 1) := by decide +kernel
theorem dL_law_698 : decode cL_law 698 = .ok (.iconst 1, 1) := by decide +kernel
theorem dL_law_699 : decode cL_law 699 = .ok (.iadd, 1) := by decide +kernel
theorem dL_law_700 : decode cL_law 700 = .ok (.iaload, 1) := by decide +kernel
theorem dL_law_701 : decode cL_law 701 = .ok (.aload_n 0, 1) := by decide +kernel
theorem dL_law_702 : decode cL_law 702 = .ok (.iload_n 3, 1) := by decide +kernel
theorem dL_law_703 : decode cL_law 703 = .ok (.iconst 2, 1) := by decide +kernel
theorem dL_law_704 : decode cL_law 704 = .ok (.iadd, 1) := by decide +kernel
theorem dL_law_705 : decode cL_law 705 = .ok (.iaload, 1) := by decide +kernel
theorem dL_law_706 : decode cL_law 706 = .ok (.aload_n 0, 1) := by decide +kernel
theorem dL_law_707 : decode cL_law 707 = .ok (.iload_n 3, 1) := by decide +kernel
theorem dL_law_708 : decode cL_law 708 = .ok (.iconst 3, 1) := by decide +kernel
theorem dL_law_709 : decode cL_law 709 = .ok (.iadd, 1) := by decide +kernel
theorem dL_law_710 : decode cL_law 710 = .ok (.iaload, 1) := by decide +kernel
theorem dL_law_711 : decode cL_law 711 = .ok (.invokevirtual 86, 3) := by decide +kernel
theorem dL_law_714 : decode cL_law 714 = .ok (.if_icmp .eq 396, 3) := by decide +kernel
theorem dL_law_717 : decode cL_law 717 = .ok (.iconst 0, 1) := by decide +kernel
theorem dL_law_718 : decode cL_law 718 = .ok (.ireturn, 1) := by decide +kernel
theorem dL_law_719 : decode cL_law 719 = .ok (.aload_n 1, 1) := by decide +kernel
theorem dL_law_720 : decode cL_law 720 = .ok (.aload_n 0, 1) := by decide +kernel
theorem dL_law_721 : decode cL_law 721 = .ok (.iload_n 3, 1) := by decide +kernel
theorem dL_law_722 : decode cL_law 722 = .ok (.iconst 1, 1) := by decide +kernel
theorem dL_law_723 : decode cL_law 723 = .ok (.iadd, 1) := by decide +kernel
theorem dL_law_724 : decode cL_law 724 = .ok (.iaload, 1) := by decide +kernel
theorem dL_law_725 : decode cL_law 725 = .ok (.aload_n 0, 1) := by decide +kernel
theorem dL_law_726 : decode cL_law 726 = .ok (.iload_n 3, 1) := by decide +kernel
theorem dL_law_727 : decode cL_law 727 = .ok (.iconst 2, 1) := by decide +kernel
theorem dL_law_728 : decode cL_law 728 = .ok (.iadd, 1) := by decide +kernel
theorem dL_law_729 : decode cL_law 729 = .ok (.iaload, 1) := by decide +kernel
theorem dL_law_730 : decode cL_law 730 = .ok (.aload_n 0, 1) := by decide +kernel
theorem dL_law_731 : decode cL_law 731 = .ok (.iload_n 3, 1) := by decide +kernel
theorem dL_law_732 : decode cL_law 732 = .ok (.iconst 3, 1) := by decide +kernel
theorem dL_law_733 : decode cL_law 733 = .ok (.iadd, 1) := by decide +kernel
theorem dL_law_734 : decode cL_law 734 = .ok (.iaload, 1) := by decide +kernel
theorem dL_law_735 : decode cL_law 735 = .ok (.invokevirtual 87, 3) := by decide +kernel
theorem dL_law_738 : decode cL_law 738 = .ok (.aload_n 2, 1) := by decide +kernel
theorem dL_law_739 : decode cL_law 739 = .ok (.aload_n 0, 1) := by decide +kernel
theorem dL_law_740 : decode cL_law 740 = .ok (.iload_n 3, 1) := by decide +kernel
theorem dL_law_741 : decode cL_law 741 = .ok (.iconst 1, 1) := by decide +kernel
theorem dL_law_742 : decode cL_law 742 = .ok (.iadd, 1) := by decide +kernel
theorem dL_law_743 : decode cL_law 743 = .ok (.iaload, 1) := by decide +kernel
theorem dL_law_744 : decode cL_law 744 = .ok (.aload_n 0, 1) := by decide +kernel
theorem dL_law_745 : decode cL_law 745 = .ok (.iload_n 3, 1) := by decide +kernel
theorem dL_law_746 : decode cL_law 746 = .ok (.iconst 2, 1) := by decide +kernel
theorem dL_law_747 : decode cL_law 747 = .ok (.iadd, 1) := by decide +kernel
theorem dL_law_748 : decode cL_law 748 = .ok (.iaload, 1) := by decide +kernel
theorem dL_law_749 : decode cL_law 749 = .ok (.aload_n 0, 1) := by decide +kernel
theorem dL_law_750 : decode cL_law 750 = .ok (.iload_n 3, 1) := by decide +kernel
theorem dL_law_751 : decode cL_law 751 = .ok (.iconst 3, 1) := by decide +kernel
theorem dL_law_752 : decode cL_law 752 = .ok (.iadd, 1) := by decide +kernel
theorem dL_law_753 : decode cL_law 753 = .ok (.iaload, 1) := by decide +kernel
theorem dL_law_754 : decode cL_law 754 = .ok (.invokevirtual 90, 3) := by decide +kernel
theorem dL_law_757 : decode cL_law 757 = .ok (.if_icmp .eq 353, 3) := by decide +kernel
theorem dL_law_760 : decode cL_law 760 = .ok (.iconst 0, 1) := by decide +kernel
theorem dL_law_761 : decode cL_law 761 = .ok (.ireturn, 1) := by decide +kernel
theorem dL_law_762 : decode cL_law 762 = .ok (.aload_n 1, 1) := by decide +kernel
theorem dL_law_763 : decode cL_law 763 = .ok (.aload_n 0, 1) := by decide +kernel
theorem dL_law_764 : decode cL_law 764 = .ok (.iload_n 3, 1) := by decide +kernel
theorem dL_law_765 : decode cL_law 765 = .ok (.iconst 1, 1) := by decide +kernel
theorem dL_law_766 : decode cL_law 766 = .ok (.iadd, 1) := by decide +kernel
theorem dL_law_767 : decode cL_law 767 = .ok (.iaload, 1) := by decide +kernel
theorem dL_law_768 : decode cL_law 768 = .ok (.aload_n 0, 1) := by decide +kernel
theorem dL_law_769 : decode cL_law 769 = .ok (.iload_n 3, 1) := by decide +kernel
theorem dL_law_770 : decode cL_law 770 = .ok (.iconst 2, 1) := by decide +kernel
theorem dL_law_771 : decode cL_law 771 = .ok (.iadd, 1) := by decide +kernel
theorem dL_law_772 : decode cL_law 772 = .ok (.iaload, 1) := by decide +kernel
theorem dL_law_773 : decode cL_law 773 = .ok (.aload_n 0, 1) := by decide +kernel
theorem dL_law_774 : decode cL_law 774 = .ok (.iload_n 3, 1) := by decide +kernel
theorem dL_law_775 : decode cL_law 775 = .ok (.iconst 3, 1) := by decide +kernel
theorem dL_law_776 : decode cL_law 776 = .ok (.iadd, 1) := by decide +kernel
theorem dL_law_777 : decode cL_law 777 = .ok (.iaload, 1) := by decide +kernel
theorem dL_law_778 : decode cL_law 778 = .ok (.aload_n 0, 1) := by decide +kernel
theorem dL_law_779 : decode cL_law 779 = .ok (.iload_n 3, 1) := by decide +kernel
theorem dL_law_780 : decode cL_law 780 = .ok (.iconst 4, 1) := by decide +kernel
theorem dL_law_781 : decode cL_law 781 = .ok (.iadd, 1) := by decide +kernel
theorem dL_law_782 : decode cL_law 782 = .ok (.iaload, 1) := by decide +kernel
theorem dL_law_783 : decode cL_law 783 = .ok (.aload_n 0, 1) := by decide +kernel
theorem dL_law_784 : decode cL_law 784 = .ok (.iload_n 3, 1) := by decide +kernel
theorem dL_law_785 : decode cL_law 785 = .ok (.iconst 5, 1) := by decide +kernel
theorem dL_law_786 : decode cL_law 786 = .ok (.iadd, 1) := by decide +kernel
theorem dL_law_787 : decode cL_law 787 = .ok (.iaload, 1) := by decide +kernel
theorem dL_law_788 : decode cL_law 788 = .ok (.invokevirtual 91, 3) := by decide +kernel
theorem dL_law_791 : decode cL_law 791 = .ok (.aload_n 2, 1) := by decide +kernel
theorem dL_law_792 : decode cL_law 792 = .ok (.aload_n 0, 1) := by decide +kernel
theorem dL_law_793 : decode cL_law 793 = .ok (.iload_n 3, 1) := by decide +kernel
theorem dL_law_794 : decode cL_law 794 = .ok (.iconst 1, 1) := by decide +kernel
theorem dL_law_795 : decode cL_law 795 = .ok (.iadd, 1) := by decide +kernel
theorem dL_law_796 : decode cL_law 796 = .ok (.iaload, 1) := by decide +kernel
theorem dL_law_797 : decode cL_law 797 = .ok (.aload_n 0, 1) := by decide +kernel
theorem dL_law_798 : decode cL_law 798 = .ok (.iload_n 3, 1) := by decide +kernel
theorem dL_law_799 : decode cL_law 799 = .ok (.iconst 2, 1) := by decide +kernel
theorem dL_law_800 : decode cL_law 800 = .ok (.iadd, 1) := by decide +kernel
theorem dL_law_801 : decode cL_law 801 = .ok (.iaload, 1) := by decide +kernel
theorem dL_law_802 : decode cL_law 802 = .ok (.aload_n 0, 1) := by decide +kernel
theorem dL_law_803 : decode cL_law 803 = .ok (.iload_n 3, 1) := by decide +kernel
theorem dL_law_804 : decode cL_law 804 = .ok (.iconst 3, 1) := by decide +kernel
theorem dL_law_805 : decode cL_law 805 = .ok (.iadd, 1) := by decide +kernel
theorem dL_law_806 : decode cL_law 806 = .ok (.iaload, 1) := by decide +kernel
theorem dL_law_807 : decode cL_law 807 = .ok (.aload_n 0, 1) := by decide +kernel
theorem dL_law_808 : decode cL_law 808 = .ok (.iload_n 3, 1) := by decide +kernel
theorem dL_law_809 : decode cL_law 809 = .ok (.iconst 4, 1) := by decide +kernel
theorem dL_law_810 : decode cL_law 810 = .ok (.iadd, 1) := by decide +kernel
theorem dL_law_811 : decode cL_law 811 = .ok (.iaload, 1) := by decide +kernel
theorem dL_law_812 : decode cL_law 812 = .ok (.aload_n 0, 1) := by decide +kernel
theorem dL_law_813 : decode cL_law 813 = .ok (.iload_n 3, 1) := by decide +kernel
theorem dL_law_814 : decode cL_law 814 = .ok (.iconst 5, 1) := by decide +kernel
theorem dL_law_815 : decode cL_law 815 = .ok (.iadd, 1) := by decide +kernel
theorem dL_law_816 : decode cL_law 816 = .ok (.iaload, 1) := by decide +kernel
theorem dL_law_817 : decode cL_law 817 = .ok (.invokevirtual 95, 3) := by decide +kernel
theorem dL_law_820 : decode cL_law 820 = .ok (.lcmp, 1) := by decide +kernel
theorem dL_law_821 : decode cL_law 821 = .ok (.ifCond .eq 289, 3) := by decide +kernel
theorem dL_law_824 : decode cL_law 824 = .ok (.iconst 0, 1) := by decide +kernel
theorem dL_law_825 : decode cL_law 825 = .ok (.ireturn, 1) := by decide +kernel
theorem dL_law_826 : decode cL_law 826 = .ok (.aload_n 1, 1) := by decide +kernel
theorem dL_law_827 : decode cL_law 827 = .ok (.invokevirtual 96, 3) := by decide +kernel
theorem dL_law_830 : decode cL_law 830 = .ok (.aload_n 2, 1) := by decide +kernel
theorem dL_law_831 : decode cL_law 831 = .ok (.invokevirtual 99, 3) := by decide +kernel
theorem dL_law_834 : decode cL_law 834 = .ok (.if_icmp .eq 276, 3) := by decide +kernel
theorem dL_law_837 : decode cL_law 837 = .ok (.iconst 0, 1) := by decide +kernel
theorem dL_law_838 : decode cL_law 838 = .ok (.ireturn, 1) := by decide +kernel
theorem dL_law_839 : decode cL_law 839 = .ok (.aload_n 1, 1) := by decide +kernel
theorem dL_law_840 : decode cL_law 840 = .ok (.invokevirtual 100, 3) := by decide +kernel
theorem dL_law_843 : decode cL_law 843 = .ok (.aload_n 2, 1) := by decide +kernel
theorem dL_law_844 : decode cL_law 844 = .ok (.invokevirtual 103, 3) := by decide +kernel
theorem dL_law_847 : decode cL_law 847 = .ok (.if_icmp .eq 263, 3) := by decide +kernel
theorem dL_law_850 : decode cL_law 850 = .ok (.iconst 0, 1) := by decide +kernel
theorem dL_law_851 : decode cL_law 851 = .ok (.ireturn, 1) := by decide +kernel
theorem dL_law_852 : decode cL_law 852 = .ok (.aload_n 1, 1) := by decide +kernel
theorem dL_law_853 : decode cL_law 853 = .ok (.aload_n 0, 1) := by decide +kernel
theorem dL_law_854 : decode cL_law 854 = .ok (.iload_n 3, 1) := by decide +kernel
theorem dL_law_855 : decode cL_law 855 = .ok (.iconst 1, 1) := by decide +kernel
theorem dL_law_856 : decode cL_law 856 = .ok (.iadd, 1) := by decide +kernel
theorem dL_law_857 : decode cL_law 857 = .ok (.iaload, 1) := by decide +kernel
theorem dL_law_858 : decode cL_law 858 = .ok (.invokevirtual 104, 3) := by decide +kernel
theorem dL_law_861 : decode cL_law 861 = .ok (.aload_n 2, 1) := by decide +kernel
theorem dL_law_862 : decode cL_law 862 = .ok (.aload_n 0, 1) := by decide +kernel
theorem dL_law_863 : decode cL_law 863 = .ok (.iload_n 3, 1) := by decide +kernel
theorem dL_law_864 : decode cL_law 864 = .ok (.iconst 1, 1) := by decide +kernel
theorem dL_law_865 : decode cL_law 865 = .ok (.iadd, 1) := by decide +kernel
theorem dL_law_866 : decode cL_law 866 = .ok (.iaload, 1) := by decide +kernel
theorem dL_law_867 : decode cL_law 867 = .ok (.invokevirtual 107, 3) := by decide +kernel
theorem dL_law_870 : decode cL_law 870 = .ok (.if_icmp .eq 240, 3) := by decide +kernel
theorem dL_law_873 : decode cL_law 873 = .ok (.iconst 0, 1) := by decide +kernel
theorem dL_law_874 : decode cL_law 874 = .ok (.ireturn, 1) := by decide +kernel
theorem dL_law_875 : decode cL_law 875 = .ok (.aload_n 1, 1) := by decide +kernel
theorem dL_law_876 : decode cL_law 876 = .ok (.aload_n 0, 1) := by decide +kernel
theorem dL_law_877 : decode cL_law 877 = .ok (.iload_n 3, 1) := by decide +kernel
theorem dL_law_878 : decode cL_law 878 = .ok (.iconst 1, 1) := by decide +kernel
theorem dL_law_879 : decode cL_law 879 = .ok (.iadd, 1) := by decide +kernel
theorem dL_law_880 : decode cL_law 880 = .ok (.iaload, 1) := by decide +kernel
theorem dL_law_881 : decode cL_law 881 = .ok (.aload_n 0, 1) := by decide +kernel
theorem dL_law_882 : decode cL_law 882 = .ok (.iload_n 3, 1) := by decide +kernel
theorem dL_law_883 : decode cL_law 883 = .ok (.iconst 2, 1) := by decide +kernel
theorem dL_law_884 : decode cL_law 884 = .ok (.iadd, 1) := by decide +kernel
theorem dL_law_885 : decode cL_law 885 = .ok (.iaload, 1) := by decide +kernel
theorem dL_law_886 : decode cL_law 886 = .ok (.aload_n 0, 1) := by decide +kernel
theorem dL_law_887 : decode cL_law 887 = .ok (.iload_n 3, 1) := by decide +kernel
theorem dL_law_888 : decode cL_law 888 = .ok (.iconst 3, 1) := by decide +kernel
theorem dL_law_889 : decode cL_law 889 = .ok (.iadd, 1) := by decide +kernel
theorem dL_law_890 : decode cL_law 890 = .ok (.iaload, 1) := by decide +kernel
theorem dL_law_891 : decode cL_law 891 = .ok (.invokevirtual 108, 3) := by decide +kernel
theorem dL_law_894 : decode cL_law 894 = .ok (.aload_n 2, 1) := by decide +kernel
theorem dL_law_895 : decode cL_law 895 = .ok (.aload_n 0, 1) := by decide +kernel
theorem dL_law_896 : decode cL_law 896 = .ok (.iload_n 3, 1) := by decide +kernel
theorem dL_law_897 : decode cL_law 897 = .ok (.iconst 1, 1) := by decide +kernel
theorem dL_law_898 : decode cL_law 898 = .ok (.iadd, 1) := by decide +kernel
theorem dL_law_899 : decode cL_law 899 = .ok (.iaload, 1) := by decide +kernel
theorem dL_law_900 : decode cL_law 900 = .ok (.aload_n 0, 1) := by decide +kernel
theorem dL_law_901 : decode cL_law 901 = .ok (.iload_n 3, 1) := by decide +kernel
theorem dL_law_902 : decode cL_law 902 = .ok (.iconst 2, 1) := by decide +kernel
theorem dL_law_903 : decode cL_law 903 = .ok (.iadd, 1) := by decide +kernel
theorem dL_law_904 : decode cL_law 904 = .ok (.iaload, 1) := by decide +kernel
theorem dL_law_905 : decode cL_law 905 = .ok (.aload_n 0, 1) := by decide +kernel
theorem dL_law_906 : decode cL_law 906 = .ok (.iload_n 3, 1) := by decide +kernel
theorem dL_law_907 : decode cL_law 907 = .ok (.iconst 3, 1) := by decide +kernel
theorem dL_law_908 : decode cL_law 908 = .ok (.iadd, 1) := by decide +kernel
theorem dL_law_909 : decode cL_law 909 = .ok (.iaload, 1) := by decide +kernel
theorem dL_law_910 : decode cL_law 910 = .ok (.invokevirtual 111, 3) := by decide +kernel
theorem dL_law_913 : decode cL_law 913 = .ok (.if_icmp .eq 197, 3) := by decide +kernel
theorem dL_law_916 : decode cL_law 916 = .ok (.iconst 0, 1) := by decide +kernel
theorem dL_law_917 : decode cL_law 917 = .ok (.ireturn, 1) := by decide +kernel
theorem dL_law_918 : decode cL_law 918 = .ok (.aload_n 1, 1) := by decide +kernel
theorem dL_law_919 : decode cL_law 919 = .ok (.aload_n 0, 1) := by decide +kernel
theorem dL_law_920 : decode cL_law 920 = .ok (.iload_n 3, 1) := by decide +kernel
theorem dL_law_921 : decode cL_law 921 = .ok (.iconst 1, 1) := by decide +kernel
theorem dL_law_922 : decode cL_law 922 = .ok (.iadd, 1) := by decide +kernel
theorem dL_law_923 : decode cL_law 923 = .ok (.iaload, 1) := by decide +kernel
theorem dL_law_924 : decode cL_law 924 = .ok (.aload_n 0, 1) := by decide +kernel
theorem dL_law_925 : decode cL_law 925 = .ok (.iload_n 3, 1) := by decide +kernel
theorem dL_law_926 : decode cL_law 926 = .ok (.iconst 2, 1) := by decide +kernel
theorem dL_law_927 : decode cL_law 927 = .ok (.iadd, 1) := by decide +kernel
theorem dL_law_928 : decode cL_law 928 = .ok (.iaload, 1) := by decide +kernel
theorem dL_law_929 : decode cL_law 929 = .ok (.aload_n 0, 1) := by decide +kernel
theorem dL_law_930 : decode cL_law 930 = .ok (.iload_n 3, 1) := by decide +kernel
theorem dL_law_931 : decode cL_law 931 = .ok (.iconst 3, 1) := by decide +kernel
theorem dL_law_932 : decode cL_law 932 = .ok (.iadd, 1) := by decide +kernel
theorem dL_law_933 : decode cL_law 933 = .ok (.iaload, 1) := by decide +kernel
theorem dL_law_934 : decode cL_law 934 = .ok (.invokevirtual 112, 3) := by decide +kernel
theorem dL_law_937 : decode cL_law 937 = .ok (.aload_n 2, 1) := by decide +kernel
theorem dL_law_938 : decode cL_law 938 = .ok (.aload_n 0, 1) := by decide +kernel
theorem dL_law_939 : decode cL_law 939 = .ok (.iload_n 3, 1) := by decide +kernel
theorem dL_law_940 : decode cL_law 940 = .ok (.iconst 1, 1) := by decide +kernel
theorem dL_law_941 : decode cL_law 941 = .ok (.iadd, 1) := by decide +kernel
theorem dL_law_942 : decode cL_law 942 = .ok (.iaload, 1) := by decide +kernel
theorem dL_law_943 : decode cL_law 943 = .ok (.aload_n 0, 1) := by decide +kernel
theorem dL_law_944 : decode cL_law 944 = .ok (.iload_n 3, 1) := by decide +kernel
theorem dL_law_945 : decode cL_law 945 = .ok (.iconst 2, 1) := by decide +kernel
theorem dL_law_946 : decode cL_law 946 = .ok (.iadd, 1) := by decide +kernel
theorem dL_law_947 : decode cL_law 947 = .ok (.iaload, 1) := by decide +kernel
theorem dL_law_948 : decode cL_law 948 = .ok (.aload_n 0, 1) := by decide +kernel
theorem dL_law_949 : decode cL_law 949 = .ok (.iload_n 3, 1) := by decide +kernel
theorem dL_law_950 : decode cL_law 950 = .ok (.iconst 3, 1) := by decide +kernel
theorem dL_law_951 : decode cL_law 951 = .ok (.iadd, 1) := by decide +kernel
theorem dL_law_952 : decode cL_law 952 = .ok (.iaload, 1) := by decide +kernel
theorem dL_law_953 : decode cL_law 953 = .ok (.invokevirtual 115, 3) := by decide +kernel
theorem dL_law_956 : decode cL_law 956 = .ok (.if_icmp .eq 154, 3) := by decide +kernel
theorem dL_law_959 : decode cL_law 959 = .ok (.iconst 0, 1) := by decide +kernel
theorem dL_law_960 : decode cL_law 960 = .ok (.ireturn, 1) := by decide +kernel
theorem dL_law_961 : decode cL_law 961 = .ok (.aload_n 1, 1) := by decide +kernel
theorem dL_law_962 : decode cL_law 962 = .ok (.aload_n 0, 1) := by decide +kernel
theorem dL_law_963 : decode cL_law 963 = .ok (.iload_n 3, 1) := by decide +kernel
theorem dL_law_964 : decode cL_law 964 = .ok (.iconst 1, 1) := by decide +kernel
theorem dL_law_965 : decode cL_law 965 = .ok (.iadd, 1) := by decide +kernel
theorem dL_law_966 : decode cL_law 966 = .ok (.iaload, 1) := by decide +kernel
theorem dL_law_967 : decode cL_law 967 = .ok (.aload_n 0, 1) := by decide +kernel
theorem dL_law_968 : decode cL_law 968 = .ok (.iload_n 3, 1) := by decide +kernel
theorem dL_law_969 : decode cL_law 969 = .ok (.iconst 2, 1) := by decide +kernel
theorem dL_law_970 : decode cL_law 970 = .ok (.iadd, 1) := by decide +kernel
theorem dL_law_971 : decode cL_law 971 = .ok (.iaload, 1) := by decide +kernel
theorem dL_law_972 : decode cL_law 972 = .ok (.aload_n 0, 1) := by decide +kernel
theorem dL_law_973 : decode cL_law 973 = .ok (.iload_n 3, 1) := by decide +kernel
theorem dL_law_974 : decode cL_law 974 = .ok (.iconst 3, 1) := by decide +kernel
theorem dL_law_975 : decode cL_law 975 = .ok (.iadd, 1) := by decide +kernel
theorem dL_law_976 : decode cL_law 976 = .ok (.iaload, 1) := by decide +kernel
theorem dL_law_977 : decode cL_law 977 = .ok (.aload_n 0, 1) := by decide +kernel
theorem dL_law_978 : decode cL_law 978 = .ok (.iload_n 3, 1) := by decide +kernel
theorem dL_law_979 : decode cL_law 979 = .ok (.iconst 4, 1) := by decide +kernel
theorem dL_law_980 : decode cL_law 980 = .ok (.iadd, 1) := by decide +kernel
theorem dL_law_981 : decode cL_law 981 = .ok (.iaload, 1) := by decide +kernel
theorem dL_law_982 : decode cL_law 982 = .ok (.aload_n 0, 1) := by decide +kernel
theorem dL_law_983 : decode cL_law 983 = .ok (.iload_n 3, 1) := by decide +kernel
theorem dL_law_984 : decode cL_law 984 = .ok (.iconst 5, 1) := by decide +kernel
theorem dL_law_985 : decode cL_law 985 = .ok (.iadd, 1) := by decide +kernel
theorem dL_law_986 : decode cL_law 986 = .ok (.iaload, 1) := by decide +kernel
theorem dL_law_987 : decode cL_law 987 = .ok (.invokevirtual 116, 3) := by decide +kernel
theorem dL_law_990 : decode cL_law 990 = .ok (.aload_n 2, 1) := by decide +kernel
theorem dL_law_991 : decode cL_law 991 = .ok (.aload_n 0, 1) := by decide +kernel
theorem dL_law_992 : decode cL_law 992 = .ok (.iload_n 3, 1) := by decide +kernel
theorem dL_law_993 : decode cL_law 993 = .ok (.iconst 1, 1) := by decide +kernel
theorem dL_law_994 : decode cL_law 994 = .ok (.iadd, 1) := by decide +kernel
theorem dL_law_995 : decode cL_law 995 = .ok (.iaload, 1) := by decide +kernel
theorem dL_law_996 : decode cL_law 996 = .ok (.aload_n 0, 1) := by decide +kernel
theorem dL_law_997 : decode cL_law 997 = .ok (.iload_n 3, 1) := by decide +kernel
theorem dL_law_998 : decode cL_law 998 = .ok (.iconst 2, 1) := by decide +kernel
theorem dL_law_999 : decode cL_law 999 = .ok (.iadd, 1) := by decide +kernel
theorem dL_law_1000 : decode cL_law 1000 = .ok (.iaload, 1) := by decide +kernel
theorem dL_law_1001 : decode cL_law 1001 = .ok (.aload_n 0, 1) := by decide +kernel
theorem dL_law_1002 : decode cL_law 1002 = .ok (.iload_n 3, 1) := by decide +kernel
theorem dL_law_1003 : decode cL_law 1003 = .ok (.iconst 3, 1) := by decide +kernel
theorem dL_law_1004 : decode cL_law 1004 = .ok (.iadd, 1) := by decide +kernel
theorem dL_law_1005 : decode cL_law 1005 = .ok (.iaload, 1) := by decide +kernel
theorem dL_law_1006 : decode cL_law 1006 = .ok (.aload_n 0, 1) := by decide +kernel
theorem dL_law_1007 : decode cL_law 1007 = .ok (.iload_n 3, 1) := by decide +kernel
theorem dL_law_1008 : decode cL_law 1008 = .ok (.iconst 4, 1) := by decide +kernel
theorem dL_law_1009 : decode cL_law 1009 = .ok (.iadd, 1) := by decide +kernel
theorem dL_law_1010 : decode cL_law 1010 = .ok (.iaload, 1) := by decide +kernel
theorem dL_law_1011 : decode cL_law 1011 = .ok (.aload_n 0, 1) := by decide +kernel
theorem dL_law_1012 : decode cL_law 1012 = .ok (.iload_n 3, 1) := by decide +kernel
theorem dL_law_1013 : decode cL_law 1013 = .ok (.iconst 5, 1) := by decide +kernel
theorem dL_law_1014 : decode cL_law 1014 = .ok (.iadd, 1) := by decide +kernel
theorem dL_law_1015 : decode cL_law 1015 = .ok (.iaload, 1) := by decide +kernel
theorem dL_law_1016 : decode cL_law 1016 = .ok (.invokevirtual 120, 3) := by decide +kernel
theorem dL_law_1019 : decode cL_law 1019 = .ok (.if_icmp .eq 91, 3) := by decide +kernel
theorem dL_law_1022 : decode cL_law 1022 = .ok (.iconst 0, 1) := by decide +kernel
theorem dL_law_1023 : decode cL_law 1023 = .ok (.ireturn, 1) := by decide +kernel
theorem dL_law_1024 : decode cL_law 1024 = .ok (.aload_n 1, 1) := by decide +kernel
theorem dL_law_1025 : decode cL_law 1025 = .ok (.aload_n 0, 1) := by decide +kernel
theorem dL_law_1026 : decode cL_law 1026 = .ok (.iload_n 3, 1) := by decide +kernel
theorem dL_law_1027 : decode cL_law 1027 = .ok (.iconst 1, 1) := by decide +kernel
theorem dL_law_1028 : decode cL_law 1028 = .ok (.iadd, 1) := by decide +kernel
theorem dL_law_1029 : decode cL_law 1029 = .ok (.iaload, 1) := by decide +kernel
theorem dL_law_1030 : decode cL_law 1030 = .ok (.aload_n 0, 1) := by decide +kernel
theorem dL_law_1031 : decode cL_law 1031 = .ok (.iload_n 3, 1) := by decide +kernel
theorem dL_law_1032 : decode cL_law 1032 = .ok (.iconst 2, 1) := by decide +kernel
theorem dL_law_1033 : decode cL_law 1033 = .ok (.iadd, 1) := by decide +kernel
theorem dL_law_1034 : decode cL_law 1034 = .ok (.iaload, 1) := by decide +kernel
theorem dL_law_1035 : decode cL_law 1035 = .ok (.aload_n 0, 1) := by decide +kernel
theorem dL_law_1036 : decode cL_law 1036 = .ok (.iload_n 3, 1) := by decide +kernel
theorem dL_law_1037 : decode cL_law 1037 = .ok (.iconst 3, 1) := by decide +kernel
theorem dL_law_1038 : decode cL_law 1038 = .ok (.iadd, 1) := by decide +kernel
theorem dL_law_1039 : decode cL_law 1039 = .ok (.iaload, 1) := by decide +kernel
theorem dL_law_1040 : decode cL_law 1040 = .ok (.aload_n 0, 1) := by decide +kernel
theorem dL_law_1041 : decode cL_law 1041 = .ok (.iload_n 3, 1) := by decide +kernel
theorem dL_law_1042 : decode cL_law 1042 = .ok (.iconst 4, 1) := by decide +kernel
theorem dL_law_1043 : decode cL_law 1043 = .ok (.iadd, 1) := by decide +kernel
theorem dL_law_1044 : decode cL_law 1044 = .ok (.iaload, 1) := by decide +kernel
theorem dL_law_1045 : decode cL_law 1045 = .ok (.invokevirtual 121, 3) := by decide +kernel
theorem dL_law_1048 : decode cL_law 1048 = .ok (.aload_n 2, 1) := by decide +kernel
theorem dL_law_1049 : decode cL_law 1049 = .ok (.aload_n 0, 1) := by decide +kernel
theorem dL_law_1050 : decode cL_law 1050 = .ok (.iload_n 3, 1) := by decide +kernel
theorem dL_law_1051 : decode cL_law 1051 = .ok (.iconst 1, 1) := by decide +kernel
theorem dL_law_1052 : decode cL_law 1052 = .ok (.iadd, 1) := by decide +kernel
theorem dL_law_1053 : decode cL_law 1053 = .ok (.iaload, 1) := by decide +kernel
theorem dL_law_1054 : decode cL_law 1054 = .ok (.aload_n 0, 1) := by decide +kernel
theorem dL_law_1055 : decode cL_law 1055 = .ok (.iload_n 3, 1) := by decide +kernel
theorem dL_law_1056 : decode cL_law 1056 = .ok (.iconst 2, 1) := by decide +kernel
theorem dL_law_1057 : decode cL_law 1057 = .ok (.iadd, 1) := by decide +kernel
theorem dL_law_1058 : decode cL_law 1058 = .ok (.iaload, 1) := by decide +kernel
theorem dL_law_1059 : decode cL_law 1059 = .ok (.aload_n 0, 1) := by decide +kernel
theorem dL_law_1060 : decode cL_law 1060 = .ok (.iload_n 3, 1) := by decide +kernel
theorem dL_law_1061 : decode cL_law 1061 = .ok (.iconst 3, 1) := by decide +kernel
theorem dL_law_1062 : decode cL_law 1062 = .ok (.iadd, 1) := by decide +kernel
theorem dL_law_1063 : decode cL_law 1063 = .ok (.iaload, 1) := by decide +kernel
theorem dL_law_1064 : decode cL_law 1064 = .ok (.aload_n 0, 1) := by decide +kernel
theorem dL_law_1065 : decode cL_law 1065 = .ok (.iload_n 3, 1) := by decide +kernel
theorem dL_law_1066 : decode cL_law 1066 = .ok (.iconst 4, 1) := by decide +kernel
theorem dL_law_1067 : decode cL_law 1067 = .ok (.iadd, 1) := by decide +kernel
theorem dL_law_1068 : decode cL_law 1068 = .ok (.iaload, 1) := by decide +kernel
theorem dL_law_1069 : decode cL_law 1069 = .ok (.invokevirtual 125, 3) := by decide +kernel
theorem dL_law_1072 : decode cL_law 1072 = .ok (.if_icmp .eq 38, 3) := by decide +kernel
theorem dL_law_1075 : decode cL_law 1075 = .ok (.iconst 0, 1) := by decide +kernel
theorem dL_law_1076 : decode cL_law 1076 = .ok (.ireturn, 1) := by decide +kernel
theorem dL_law_1077 : decode cL_law 1077 = .ok (.aload_n 1, 1) := by decide +kernel
theorem dL_law_1078 : decode cL_law 1078 = .ok (.aload_n 0, 1) := by decide +kernel
theorem dL_law_1079 : decode cL_law 1079 = .ok (.iload_n 3, 1) := by decide +kernel
theorem dL_law_1080 : decode cL_law 1080 = .ok (.iconst 1, 1) := by decide +kernel
theorem dL_law_1081 : decode cL_law 1081 = .ok (.iadd, 1) := by decide +kernel
theorem dL_law_1082 : decode cL_law 1082 = .ok (.iaload, 1) := by decide +kernel
theorem dL_law_1083 : decode cL_law 1083 = .ok (.aload_n 0, 1) := by decide +kernel
theorem dL_law_1084 : decode cL_law 1084 = .ok (.iload_n 3, 1) := by decide +kernel
theorem dL_law_1085 : decode cL_law 1085 = .ok (.iconst 2, 1) := by decide +kernel
theorem dL_law_1086 : decode cL_law 1086 = .ok (.iadd, 1) := by decide +kernel
theorem dL_law_1087 : decode cL_law 1087 = .ok (.iaload, 1) := by decide +kernel
theorem dL_law_1088 : decode cL_law 1088 = .ok (.invokevirtual 126, 3) := by decide +kernel
theorem dL_law_1091 : decode cL_law 1091 = .ok (.aload_n 2, 1) := by decide +kernel
theorem dL_law_1092 : decode cL_law 1092 = .ok (.aload_n 0, 1) := by decide +kernel
theorem dL_law_1093 : decode cL_law 1093 = .ok (.iload_n 3, 1) := by decide +kernel
theorem dL_law_1094 : decode cL_law 1094 = .ok (.iconst 1, 1) := by decide +kernel
theorem dL_law_1095 : decode cL_law 1095 = .ok (.iadd, 1) := by decide +kernel
theorem dL_law_1096 : decode cL_law 1096 = .ok (.iaload, 1) := by decide +kernel
theorem dL_law_1097 : decode cL_law 1097 = .ok (.aload_n 0, 1) := by decide +kernel
theorem dL_law_1098 : decode cL_law 1098 = .ok (.iload_n 3, 1) := by decide +kernel
theorem dL_law_1099 : decode cL_law 1099 = .ok (.iconst 2, 1) := by decide +kernel
theorem dL_law_1100 : decode cL_law 1100 = .ok (.iadd, 1) := by decide +kernel
theorem dL_law_1101 : decode cL_law 1101 = .ok (.iaload, 1) := by decide +kernel
theorem dL_law_1102 : decode cL_law 1102 = .ok (.invokevirtual 129, 3) := by decide +kernel
theorem dL_law_1105 : decode cL_law 1105 = .ok (.if_icmp .eq 5, 3) := by decide +kernel
theorem dL_law_1108 : decode cL_law 1108 = .ok (.iconst 0, 1) := by decide +kernel
theorem dL_law_1109 : decode cL_law 1109 = .ok (.ireturn, 1) := by decide +kernel
theorem dL_law_1110 : decode cL_law 1110 = .ok (.iinc 3 6, 3) := by decide +kernel
theorem dL_law_1113 : decode cL_law 1113 = .ok (.goto (-1095), 3) := by decide +kernel
theorem dL_law_1116 : decode cL_law 1116 = .ok (.iconst 1, 1) := by decide +kernel
theorem dL_law_1117 : decode cL_law 1117 = .ok (.ireturn, 1) := by decide +kernel
end
section
theorem dX7_init_0 : decode cX7_init 0 = .ok (.aload_n 0, 1) := by decide +kernel
theorem dX7_init_1 : decode cX7_init 1 = .ok (.invokespecial 1, 3) := by decide +kernel
theorem dX7_init_4 : decode cX7_init 4 = .ok (.aload_n 0, 1) := by decide +kernel
theorem dX7_init_5 : decode cX7_init 5 = .ok (.bipush 63, 2) := by decide +kernel
theorem dX7_init_7 : decode cX7_init 7 = .ok (.newarray .int, 2) := by decide +kernel
theorem dX7_init_9 : decode cX7_init 9 = .ok (.putfield 7, 3) := by decide +kernel
theorem dX7_init_12 : decode cX7_init 12 = .ok (.aload_n 0, 1) := by decide +kernel
theorem dX7_init_13 : decode cX7_init 13 = .ok (.bipush 63, 2) := by decide +kernel
theorem dX7_init_15 : decode cX7_init 15 = .ok (.newarray .int, 2) := by decide +kernel
theorem dX7_init_17 : decode cX7_init 17 = .ok (.putfield 13, 3) := by decide +kernel
theorem dX7_init_20 : decode cX7_init 20 = .ok (.aload_n 0, 1) := by decide +kernel
theorem dX7_init_21 : decode cX7_init 21 = .ok (.sipush 160, 3) := by decide +kernel
theorem dX7_init_24 : decode cX7_init 24 = .ok (.newarray .int, 2) := by decide +kernel
theorem dX7_init_26 : decode cX7_init 26 = .ok (.putfield 16, 3) := by decide +kernel
theorem dX7_init_29 : decode cX7_init 29 = .ok (.aload_n 0, 1) := by decide +kernel
theorem dX7_init_30 : decode cX7_init 30 = .ok (.sipush 960, 3) := by decide +kernel
theorem dX7_init_33 : decode cX7_init 33 = .ok (.newarray .int, 2) := by decide +kernel
theorem dX7_init_35 : decode cX7_init 35 = .ok (.putfield 19, 3) := by decide +kernel
theorem dX7_init_38 : decode cX7_init 38 = .ok (.aload_n 0, 1) := by decide +kernel
theorem dX7_init_39 : decode cX7_init 39 = .ok (.bipush 18, 2) := by decide +kernel
theorem dX7_init_41 : decode cX7_init 41 = .ok (.newarray .int, 2) := by decide +kernel
theorem dX7_init_43 : decode cX7_init 43 = .ok (.putfield 22, 3) := by decide +kernel
theorem dX7_init_46 : decode cX7_init 46 = .ok (.aload_n 0, 1) := by decide +kernel
theorem dX7_init_47 : decode cX7_init 47 = .ok (.aload_n 0, 1) := by decide +kernel
theorem dX7_init_48 : decode cX7_init 48 = .ok (.invokevirtual 25, 3) := by decide +kernel
theorem dX7_init_51 : decode cX7_init 51 = .ok (.putfield 29, 3) := by decide +kernel
theorem dX7_init_54 : decode cX7_init 54 = .ok (.aload_n 0, 1) := by decide +kernel
theorem dX7_init_55 : decode cX7_init 55 = .ok (.bipush 72, 2) := by decide +kernel
theorem dX7_init_57 : decode cX7_init 57 = .ok (.newarray .char, 2) := by decide +kernel
theorem dX7_init_59 : decode cX7_init 59 = .ok (.dup, 1) := by decide +kernel
theorem dX7_init_60 : decode cX7_init 60 = .ok (.iconst 0, 1) := by decide +kernel
theorem dX7_init_61 : decode cX7_init 61 = .ok (.bipush 119, 2) := by decide +kernel
theorem dX7_init_63 : decode cX7_init 63 = .ok (.castore, 1) := by decide +kernel
theorem dX7_init_64 : decode cX7_init 64 = .ok (.dup, 1) := by decide +kernel
theorem dX7_init_65 : decode cX7_init 65 = .ok (.iconst 1, 1) := by decide +kernel
theorem dX7_init_66 : decode cX7_init 66 = .ok (.bipush 111, 2) := by decide +kernel
theorem dX7_init_68 : decode cX7_init 68 = .ok (.castore, 1) := by decide +kernel
theorem dX7_init_69 : decode cX7_init 69 = .ok (.dup, 1) := by decide +kernel
theorem dX7_init_70 : decode cX7_init 70 = .ok (.iconst 2, 1) := by decide +kernel
theorem dX7_init_71 : decode cX7_init 71 = .ok (.bipush 114, 2) := by decide +kernel
theorem dX7_init_73 : decode cX7_init 73 = .ok (.castore, 1) := by decide +kernel
theorem dX7_init_74 : decode cX7_init 74 = .ok (.dup, 1) := by decide +kernel
theorem dX7_init_75 : decode cX7_init 75 = .ok (.iconst 3, 1) := by decide +kernel
theorem dX7_init_76 : decode cX7_init 76 = .ok (.bipush 100, 2) := by decide +kernel
theorem dX7_init_78 : decode cX7_init 78 = .ok (.castore, 1) := by decide +kernel
theorem dX7_init_79 : decode cX7_init 79 = .ok (.dup, 1) := by decide +kernel
theorem dX7_init_80 : decode cX7_init 80 = .ok (.iconst 4, 1) := by decide +kernel
theorem dX7_init_81 : decode cX7_init 81 = .ok (.iconst 0, 1) := by decide +kernel
theorem dX7_init_82 : decode cX7_init 82 = .ok (.castore, 1) := by decide +kernel
theorem dX7_init_83 : decode cX7_init 83 = .ok (.dup, 1) := by decide +kernel
theorem dX7_init_84 : decode cX7_init 84 = .ok (.iconst 5, 1) := by decide +kernel
theorem dX7_init_85 : decode cX7_init 85 = .ok (.iconst 0, 1) := by decide +kernel
theorem dX7_init_86 : decode cX7_init 86 = .ok (.castore, 1) := by decide +kernel
theorem dX7_init_87 : decode cX7_init 87 = .ok (.dup, 1) := by decide +kernel
theorem dX7_init_88 : decode cX7_init 88 = .ok (.bipush 6, 2) := by decide +kernel
theorem dX7_init_90 : decode cX7_init 90 = .ok (.bipush 97, 2) := by decide +kernel
theorem dX7_init_92 : decode cX7_init 92 = .ok (.castore, 1) := by decide +kernel
theorem dX7_init_93 : decode cX7_init 93 = .ok (.dup, 1) := by decide +kernel
theorem dX7_init_94 : decode cX7_init 94 = .ok (.bipush 7, 2) := by decide +kernel
theorem dX7_init_96 : decode cX7_init 96 = .ok (.bipush 110, 2) := by decide +kernel
theorem dX7_init_98 : decode cX7_init 98 = .ok (.castore, 1) := by decide +kernel
theorem dX7_init_99 : decode cX7_init 99 = .ok (.dup, 1) := by decide +kernel
theorem dX7_init_100 : decode cX7_init 100 = .ok (.bipush 8, 2) := by decide +kernel
theorem dX7_init_102 : decode cX7_init 102 = .ok (.bipush 103, 2) := by decide +kernel
theorem dX7_init_104 : decode cX7_init 104 = .ok (.castore, 1) := by decide +kernel
theorem dX7_init_105 : decode cX7_init 105 = .ok (.dup, 1) := by decide +kernel
theorem dX7_init_106 : decode cX7_init 106 = .ok (.bipush 9, 2) := by decide +kernel
theorem dX7_init_108 : decode cX7_init 108 = .ok (.bipush 101, 2) := by decide +kernel
theorem dX7_init_110 : decode cX7_init 110 = .ok (.castore, 1) := by decide +kernel
theorem dX7_init_111 : decode cX7_init 111 = .ok (.dup, 1) := by decide +kernel
theorem dX7_init_112 : decode cX7_init 112 = .ok (.bipush 10, 2) := by decide +kernel
theorem dX7_init_114 : decode cX7_init 114 = .ok (.bipush 114, 2) := by decide +kernel
theorem dX7_init_116 : decode cX7_init 116 = .ok (.castore, 1) := by decide +kernel
theorem dX7_init_117 : decode cX7_init 117 = .ok (.dup, 1) := by decide +kernel
theorem dX7_init_118 : decode cX7_init 118 = .ok (.bipush 11, 2) := by decide +kernel
theorem dX7_init_120 : decode cX7_init 120 = .ok (.iconst 0, 1) := by decide +kernel
theorem dX7_init_121 : decode cX7_init 121 = .ok (.castore, 1) := by decide +kernel
theorem dX7_init_122 : decode cX7_init 122 = .ok (.dup, 1) := by decide +kernel
theorem dX7_init_123 : decode cX7_init 123 = .ok (.bipush 12, 2) := by decide +kernel
theorem dX7_init_125 : decode cX7_init 125 = .ok (.bipush 110, 2) := by decide +kernel
theorem dX7_init_127 : decode cX7_init 127 = .ok (.castore, 1) := by decide +kernel
theorem dX7_init_128 : decode cX7_init 128 = .ok (.dup, 1) := by decide +kernel
theorem dX7_init_129 : decode cX7_init 129 = .ok (.bipush 13, 2) := by decide +kernel
theorem dX7_init_131 : decode cX7_init 131 = .ok (.bipush 117, 2) := by decide +kernel
theorem dX7_init_133 : decode cX7_init 133 = .ok (.castore, 1) := by decide +kernel
theorem dX7_init_134 : decode cX7_init 134 = .ok (.dup, 1) := by decide +kernel
theorem dX7_init_135 : decode cX7_init 135 = .ok (.bipush 14, 2) := by decide +kernel
theorem dX7_init_137 : decode cX7_init 137 = .ok (.bipush 109, 2) := by decide +kernel
theorem dX7_init_139 : decode cX7_init 139 = .ok (.castore, 1) := by decide +kernel
theorem dX7_init_140 : decode cX7_init 140 = .ok (.dup, 1) := by decide +kernel
theorem dX7_init_141 : decode cX7_init 141 = .ok (.bipush 15, 2) := by decide +kernel
theorem dX7_init_143 : decode cX7_init 143 = .ok (.bipush 98, 2) := by decide +kernel
theorem dX7_init_145 : decode cX7_init 145 = .ok (.castore, 1) := by decide +kernel
theorem dX7_init_146 : decode cX7_init 146 = .ok (.dup, 1) := by decide +kernel
theorem dX7_init_147 : decode cX7_init 147 = .ok (.bipush 16, 2) := by decide +kernel
theorem dX7_init_149 : decode cX7_init 149 = .ok (.bipush 101, 2) := by decide +kernel
theorem dX7_init_151 : decode cX7_init 151 = .ok (.castore, 1) := by decide +kernel
theorem dX7_init_152 : decode cX7_init 152 = .ok (.dup, 1) := by decide +kernel
theorem dX7_init_153 : decode cX7_init 153 = .ok (.bipush 17, 2) := by decide +kernel
theorem dX7_init_155 : decode cX7_init 155 = .ok (.bipush 114, 2) := by decide +kernel
theorem dX7_init_157 : decode cX7_init 157 = .ok (.castore, 1) := by decide +kernel
theorem dX7_init_158 : decode cX7_init 158 = .ok (.dup, 1) := by decide +kernel
theorem dX7_init_159 : decode cX7_init 159 = .ok (.bipush 18, 2) := by decide +kernel
theorem dX7_init_161 : decode cX7_init 161 = .ok (.bipush 104, 2) := by decide +kernel
theorem dX7_init_163 : decode cX7_init 163 = .ok (.castore, 1) := by decide +kernel
theorem dX7_init_164 : decode cX7_init 164 = .ok (.dup, 1) := by decide +kernel
theorem dX7_init_165 : decode cX7_init 165 = .ok (.bipush 19, 2) := by decide +kernel
theorem dX7_init_167 : decode cX7_init 167 = .ok (.bipush 111, 2) := by decide +kernel
theorem dX7_init_169 : decode cX7_init 169 = .ok (.castore, 1) := by decide +kernel
theorem dX7_init_170 : decode cX7_init 170 = .ok (.dup, 1) := by decide +kernel
theorem dX7_init_171 : decode cX7_init 171 = .ok (.bipush 20, 2) := by decide +kernel
theorem dX7_init_173 : decode cX7_init 173 = .ok (.bipush 117, 2) := by decide +kernel
theorem dX7_init_175 : decode cX7_init 175 = .ok (.castore, 1) := by decide +kernel
theorem dX7_init_176 : decode cX7_init 176 = .ok (.dup, 1) := by decide +kernel
theorem dX7_init_177 : decode cX7_init 177 = .ok (.bipush 21, 2) := by decide +kernel
theorem dX7_init_179 : decode cX7_init 179 = .ok (.bipush 114, 2) := by decide +kernel
theorem dX7_init_181 : decode cX7_init 181 = .ok (.castore, 1) := by decide +kernel
theorem dX7_init_182 : decode cX7_init 182 = .ok (.dup, 1) := by decide +kernel
theorem dX7_init_183 : decode cX7_init 183 = .ok (.bipush 22, 2) := by decide +kernel
theorem dX7_init_185 : decode cX7_init 185 = .ok (.iconst 0, 1) := by decide +kernel
theorem dX7_init_186 : decode cX7_init 186 = .ok (.castore, 1) := by decide +kernel
theorem dX7_init_187 : decode cX7_init 187 = .ok (.dup, 1) := by decide +kernel
theorem dX7_init_188 : decode cX7_init 188 = .ok (.bipush 23, 2) := by decide +kernel
theorem dX7_init_190 : decode cX7_init 190 = .ok (.iconst 0, 1) := by decide +kernel
theorem dX7_init_191 : decode cX7_init 191 = .ok (.castore, 1) := by decide +kernel
theorem dX7_init_192 : decode cX7_init 192 = .ok (.dup, 1) := by decide +kernel
theorem dX7_init_193 : decode cX7_init 193 = .ok (.bipush 24, 2) := by decide +kernel
theorem dX7_init_195 : decode cX7_init 195 = .ok (.bipush 116, 2) := by decide +kernel
theorem dX7_init_197 : decode cX7_init 197 = .ok (.castore, 1) := by decide +kernel
theorem dX7_init_198 : decode cX7_init 198 = .ok (.dup, 1) := by decide +kernel
theorem dX7_init_199 : decode cX7_init 199 = .ok (.bipush 25, 2) := by decide +kernel
theorem dX7_init_201 : decode cX7_init 201 = .ok (.bipush 104, 2) := by decide +kernel
theorem dX7_init_203 : decode cX7_init 203 = .ok (.castore, 1) := by decide +kernel
theorem dX7_init_204 : decode cX7_init 204 = .ok (.dup, 1) := by decide +kernel
theorem dX7_init_205 : decode cX7_init 205 = .ok (.bipush 26, 2) := by decide +kernel
theorem dX7_init_207 : decode cX7_init 207 = .ok (.bipush 105, 2) := by decide +kernel
theorem dX7_init_209 : decode cX7_init 209 = .ok (.castore, 1) := by decide +kernel
theorem dX7_init_210 : decode cX7_init 210 = .ok (.dup, 1) := by decide +kernel
theorem dX7_init_211 : decode cX7_init 211 = .ok (.bipush 27, 2) := by decide +kernel
theorem dX7_init_213 : decode cX7_init 213 = .ok (.bipush 110, 2) := by decide +kernel
theorem dX7_init_215 : decode cX7_init 215 = .ok (.castore, 1) := by decide +kernel
theorem dX7_init_216 : decode cX7_init 216 = .ok (.dup, 1) := by decide +kernel
theorem dX7_init_217 : decode cX7_init 217 = .ok (.bipush 28, 2) := by decide +kernel
theorem dX7_init_219 : decode cX7_init 219 = .ok (.bipush 103, 2) := by decide +kernel
theorem dX7_init_221 : decode cX7_init 221 = .ok (.castore, 1) := by decide +kernel
theorem dX7_init_222 : decode cX7_init 222 = .ok (.dup, 1) := by decide +kernel
theorem dX7_init_223 : decode cX7_init 223 = .ok (.bipush 29, 2) := by decide +kernel
theorem dX7_init_225 : decode cX7_init 225 = .ok (.bipush 115, 2) := by decide +kernel
theorem dX7_init_227 : decode cX7_init 227 = .ok (.castore, 1) := by decide +kernel
theorem dX7_init_228 : decode cX7_init 228 = .ok (.dup, 1) := by decide +kernel
theorem dX7_init_229 : decode cX7_init 229 = .ok (.bipush 30, 2) := by decide +kernel
theorem dX7_init_231 : decode cX7_init 231 = .ok (.bipush 98, 2) := by decide +kernel
theorem dX7_init_233 : decode cX7_init 233 = .ok (.castore, 1) := by decide +kernel
theorem dX7_init_234 : decode cX7_init 234 = .ok (.dup, 1) := by decide +kernel
theorem dX7_init_235 : decode cX7_init 235 = .ok (.bipush 31, 2) := by decide +kernel
theorem dX7_init_237 : decode cX7_init 237 = .ok (.bipush 101, 2) := by decide +kernel
theorem dX7_init_239 : decode cX7_init 239 = .ok (.castore, 1) := by decide +kernel
theorem dX7_init_240 : decode cX7_init 240 = .ok (.dup, 1) := by decide +kernel
theorem dX7_init_241 : decode cX7_init 241 = .ok (.bipush 32, 2) := by decide +kernel
theorem dX7_init_243 : decode cX7_init 243 = .ok (.bipush 110, 2) := by decide +kernel
theorem dX7_init_245 : decode cX7_init 245 = .ok (.castore, 1) := by decide +kernel
theorem dX7_init_246 : decode cX7_init 246 = .ok (.dup, 1) := by decide +kernel
theorem dX7_init_247 : decode cX7_init 247 = .ok (.bipush 33, 2) := by decide +kernel
theorem dX7_init_249 : decode cX7_init 249 = .ok (.bipush 99, 2) := by decide +kernel
theorem dX7_init_251 : decode cX7_init 251 = .ok (.castore, 1) := by decide +kernel
theorem dX7_init_252 : decode cX7_init 252 = .ok (.dup, 1) := by decide +kernel
theorem dX7_init_253 : decode cX7_init 253 = .ok (.bipush 34, 2) := by decide +kernel
theorem dX7_init_255 : decode cX7_init 255 = .ok (.bipush 104, 2) := by decide +kernel
theorem dX7_init_257 : decode cX7_init 257 = .ok (.castore, 1) := by decide +kernel
theorem dX7_init_258 : decode cX7_init 258 = .ok (.dup, 1) := by decide +kernel
theorem dX7_init_259 : decode cX7_init 259 = .ok (.bipush 35, 2) := by decide +kernel
theorem dX7_init_261 : decode cX7_init 261 = .ok (.iconst 0, 1) := by decide +kernel
theorem dX7_init_262 : decode cX7_init 262 = .ok (.castore, 1) := by decide +kernel
theorem dX7_init_263 : decode cX7_init 263 = .ok (.dup, 1) := by decide +kernel
theorem dX7_init_264 : decode cX7_init 264 = .ok (.bipush 36, 2) := by decide +kernel
theorem dX7_init_266 : decode cX7_init 266 = .ok (.bipush 104, 2) := by decide +kernel
theorem dX7_init_268 : decode cX7_init 268 = .ok (.castore, 1) := by decide +kernel
theorem dX7_init_269 : decode cX7_init 269 = .ok (.dup, 1) := by decide +kernel
theorem dX7_init_270 : decode cX7_init 270 = .ok (.bipush 37, 2) := by decide +kernel
theorem dX7_init_272 : decode cX7_init 272 = .ok (.bipush 101, 2) := by decide +kernel
theorem dX7_init_274 : decode cX7_init 274 = .ok (.castore, 1) := by decide +kernel
theorem dX7_init_275 : decode cX7_init 275 = .ok (.dup, 1) := by decide +kernel
theorem dX7_init_276 : decode cX7_init 276 = .ok (.bipush 38, 2) := by decide +kernel
theorem dX7_init_278 : decode cX7_init 278 = .ok (.bipush 97, 2) := by decide +kernel
theorem dX7_init_280 : decode cX7_init 280 = .ok (.castore, 1) := by decide +kernel
theorem dX7_init_281 : decode cX7_init 281 = .ok (.dup, 1) := by decide +kernel
theorem dX7_init_282 : decode cX7_init 282 = .ok (.bipush 39, 2) := by decide +kernel
theorem dX7_init_284 : decode cX7_init 284 = .ok (.bipush 116, 2) := by decide +kernel
theorem dX7_init_286 : decode cX7_init 286 = .ok (.castore, 1) := by decide +kernel
theorem dX7_init_287 : decode cX7_init 287 = .ok (.dup, 1) := by decide +kernel
theorem dX7_init_288 : decode cX7_init 288 = .ok (.bipush 40, 2) := by decide +kernel
theorem dX7_init_290 : decode cX7_init 290 = .ok (.bipush 115, 2) := by decide +kernel
theorem dX7_init_292 : decode cX7_init 292 = .ok (.castore, 1) := by decide +kernel
theorem dX7_init_293 : decode cX7_init 293 = .ok (.dup, 1) := by decide +kernel
theorem dX7_init_294 : decode cX7_init 294 = .ok (.bipush 41, 2) := by decide +kernel
theorem dX7_init_296 : decode cX7_init 296 = .ok (.iconst 0, 1) := by decide +kernel
theorem dX7_init_297 : decode cX7_init 297 = .ok (.castore, 1) := by decide +kernel
theorem dX7_init_298 : decode cX7_init 298 = .ok (.dup, 1) := by decide +kernel
theorem dX7_init_299 : decode cX7_init 299 = .ok (.bipush 42, 2) := by decide +kernel
theorem dX7_init_301 : decode cX7_init 301 = .ok (.bipush 99, 2) := by decide +kernel
theorem dX7_init_303 : decode cX7_init 303 = .ok (.castore, 1) := by decide +kernel
theorem dX7_init_304 : decode cX7_init 304 = .ok (.dup, 1) := by decide +kernel
theorem dX7_init_305 : decode cX7_init 305 = .ok (.bipush 43, 2) := by decide +kernel
theorem dX7_init_307 : decode cX7_init 307 = .ok (.bipush 111, 2) := by decide +kernel
theorem dX7_init_309 : decode cX7_init 309 = .ok (.castore, 1) := by decide +kernel
theorem dX7_init_310 : decode cX7_init 310 = .ok (.dup, 1) := by decide +kernel
theorem dX7_init_311 : decode cX7_init 311 = .ok (.bipush 44, 2) := by decide +kernel
theorem dX7_init_313 : decode cX7_init 313 = .ok (.bipush 111, 2) := by decide +kernel
theorem dX7_init_315 : decode cX7_init 315 = .ok (.castore, 1) := by decide +kernel
theorem dX7_init_316 : decode cX7_init 316 = .ok (.dup, 1) := by decide +kernel
theorem dX7_init_317 : decode cX7_init 317 = .ok (.bipush 45, 2) := by decide +kernel
theorem dX7_init_319 : decode cX7_init 319 = .ok (.bipush 108, 2) := by decide +kernel
theorem dX7_init_321 : decode cX7_init 321 = .ok (.castore, 1) := by decide +kernel
theorem dX7_init_322 : decode cX7_init 322 = .ok (.dup, 1) := by decide +kernel
theorem dX7_init_323 : decode cX7_init 323 = .ok (.bipush 46, 2) := by decide +kernel
theorem dX7_init_325 : decode cX7_init 325 = .ok (.bipush 115, 2) := by decide +kernel
theorem dX7_init_327 : decode cX7_init 327 = .ok (.castore, 1) := by decide +kernel
theorem dX7_init_328 : decode cX7_init 328 = .ok (.dup, 1) := by decide +kernel
theorem dX7_init_329 : decode cX7_init 329 = .ok (.bipush 47, 2) := by decide +kernel
theorem dX7_init_331 : decode cX7_init 331 = .ok (.iconst 0, 1) := by decide +kernel
theorem dX7_init_332 : decode cX7_init 332 = .ok (.castore, 1) := by decide +kernel
theorem dX7_init_333 : decode cX7_init 333 = .ok (.dup, 1) := by decide +kernel
theorem dX7_init_334 : decode cX7_init 334 = .ok (.bipush 48, 2) := by decide +kernel
theorem dX7_init_336 : decode cX7_init 336 = .ok (.bipush 102, 2) := by decide +kernel
theorem dX7_init_338 : decode cX7_init 338 = .ok (.castore, 1) := by decide +kernel
theorem dX7_init_339 : decode cX7_init 339 = .ok (.dup, 1) := by decide +kernel
theorem dX7_init_340 : decode cX7_init 340 = .ok (.bipush 49, 2) := by decide +kernel
theorem dX7_init_342 : decode cX7_init 342 = .ok (.bipush 97, 2) := by decide +kernel
theorem dX7_init_344 : decode cX7_init 344 = .ok (.castore, 1) := by decide +kernel
theorem dX7_init_345 : decode cX7_init 345 = .ok (.dup, 1) := by decide +kernel
theorem dX7_init_346 : decode cX7_init 346 = .ok (.bipush 50, 2) := by decide +kernel
theorem dX7_init_348 : decode cX7_init 348 = .ok (.bipush 114, 2) := by decide +kernel
theorem dX7_init_350 : decode cX7_init 350 = .ok (.castore, 1) := by decide +kernel
theorem dX7_init_351 : decode cX7_init 351 = .ok (.dup, 1) := by decide +kernel
theorem dX7_init_352 : decode cX7_init 352 = .ok (.bipush 51, 2) := by decide +kernel
theorem dX7_init_354 : decode cX7_init 354 = .ok (.iconst 0, 1) := by decide +kernel
theorem dX7_init_355 : decode cX7_init 355 = .ok (.castore, 1) := by decide +kernel
theorem dX7_init_356 : decode cX7_init 356 = .ok (.dup, 1) := by decide +kernel
theorem dX7_init_357 : decode cX7_init 357 = .ok (.bipush 52, 2) := by decide +kernel
theorem dX7_init_359 : decode cX7_init 359 = .ok (.iconst 0, 1) := by decide +kernel
theorem dX7_init_360 : decode cX7_init 360 = .ok (.castore, 1) := by decide +kernel
theorem dX7_init_361 : decode cX7_init 361 = .ok (.dup, 1) := by decide +kernel
theorem dX7_init_362 : decode cX7_init 362 = .ok (.bipush 53, 2) := by decide +kernel
theorem dX7_init_364 : decode cX7_init 364 = .ok (.iconst 0, 1) := by decide +kernel
theorem dX7_init_365 : decode cX7_init 365 = .ok (.castore, 1) := by decide +kernel
theorem dX7_init_366 : decode cX7_init 366 = .ok (.dup, 1) := by decide +kernel
theorem dX7_init_367 : decode cX7_init 367 = .ok (.bipush 54, 2) := by decide +kernel
theorem dX7_init_369 : decode cX7_init 369 = .ok (.bipush 111, 2) := by decide +kernel
theorem dX7_init_371 : decode cX7_init 371 = .ok (.castore, 1) := by decide +kernel
theorem dX7_init_372 : decode cX7_init 372 = .ok (.dup, 1) := by decide +kernel
theorem dX7_init_373 : decode cX7_init 373 = .ok (.bipush 55, 2) := by decide +kernel
theorem dX7_init_375 : decode cX7_init 375 = .ok (.bipush 114, 2) := by decide +kernel
theorem dX7_init_377 : decode cX7_init 377 = .ok (.castore, 1) := by decide +kernel
theorem dX7_init_378 : decode cX7_init 378 = .ok (.dup, 1) := by decide +kernel
theorem dX7_init_379 : decode cX7_init 379 = .ok (.bipush 56, 2) := by decide +kernel
theorem dX7_init_381 : decode cX7_init 381 = .ok (.iconst 0, 1) := by decide +kernel
theorem dX7_init_382 : decode cX7_init 382 = .ok (.castore, 1) := by decide +kernel
theorem dX7_init_383 : decode cX7_init 383 = .ok (.dup, 1) := by decide +kernel
theorem dX7_init_384 : decode cX7_init 384 = .ok (.bipush 57, 2) := by decide +kernel
theorem dX7_init_386 : decode cX7_init 386 = .ok (.iconst 0, 1) := by decide +kernel
theorem dX7_init_387 : decode cX7_init 387 = .ok (.castore, 1) := by decide +kernel
theorem dX7_init_388 : decode cX7_init 388 = .ok (.dup, 1) := by decide +kernel
theorem dX7_init_389 : decode cX7_init 389 = .ok (.bipush 58, 2) := by decide +kernel
theorem dX7_init_391 : decode cX7_init 391 = .ok (.iconst 0, 1) := by decide +kernel
theorem dX7_init_392 : decode cX7_init 392 = .ok (.castore, 1) := by decide +kernel
theorem dX7_init_393 : decode cX7_init 393 = .ok (.dup, 1) := by decide +kernel
theorem dX7_init_394 : decode cX7_init 394 = .ok (.bipush 59, 2) := by decide +kernel
theorem dX7_init_396 : decode cX7_init 396 = .ok (.iconst 0, 1) := by decide +kernel
theorem dX7_init_397 : decode cX7_init 397 = .ok (.castore, 1) := by decide +kernel
theorem dX7_init_398 : decode cX7_init 398 = .ok (.dup, 1) := by decide +kernel
theorem dX7_init_399 : decode cX7_init 399 = .ok (.bipush 60, 2) := by decide +kernel
theorem dX7_init_401 : decode cX7_init 401 = .ok (.bipush 97, 2) := by decide +kernel
theorem dX7_init_403 : decode cX7_init 403 = .ok (.castore, 1) := by decide +kernel
theorem dX7_init_404 : decode cX7_init 404 = .ok (.dup, 1) := by decide +kernel
theorem dX7_init_405 : decode cX7_init 405 = .ok (.bipush 61, 2) := by decide +kernel
theorem dX7_init_407 : decode cX7_init 407 = .ok (.bipush 110, 2) := by decide +kernel
theorem dX7_init_409 : decode cX7_init 409 = .ok (.castore, 1) := by decide +kernel
theorem dX7_init_410 : decode cX7_init 410 = .ok (.dup, 1) := by decide +kernel
theorem dX7_init_411 : decode cX7_init 411 = .ok (.bipush 62, 2) := by decide +kernel
theorem dX7_init_413 : decode cX7_init 413 = .ok (.bipush 100, 2) := by decide +kernel
theorem dX7_init_415 : decode cX7_init 415 = .ok (.castore, 1) := by decide +kernel
theorem dX7_init_416 : decode cX7_init 416 = .ok (.dup, 1) := by decide +kernel
theorem dX7_init_417 : decode cX7_init 417 = .ok (.bipush 63, 2) := by decide +kernel
theorem dX7_init_419 : decode cX7_init 419 = .ok (.iconst 0, 1) := by decide +kernel
theorem dX7_init_420 : decode cX7_init 420 = .ok (.castore, 1) := by decide +kernel
theorem dX7_init_421 : decode cX7_init 421 = .ok (.dup, 1) := by decide +kernel
theorem dX7_init_422 : decode cX7_init 422 = .ok (.bipush 64, 2) := by decide +kernel
theorem dX7_init_424 : decode cX7_init 424 = .ok (.iconst 0, 1) := by decide +kernel
theorem dX7_init_425 : decode cX7_init 425 = .ok (.castore, 1) := by decide +kernel
theorem dX7_init_426 : decode cX7_init 426 = .ok (.dup, 1) := by decide +kernel
theorem dX7_init_427 : decode cX7_init 427 = .ok (.bipush 65, 2) := by decide +kernel
theorem dX7_init_429 : decode cX7_init 429 = .ok (.iconst 0, 1) := by decide +kernel
theorem dX7_init_430 : decode cX7_init 430 = .ok (.castore, 1) := by decide +kernel
theorem dX7_init_431 : decode cX7_init 431 = .ok (.dup, 1) := by decide +kernel
theorem dX7_init_432 : decode cX7_init 432 = .ok (.bipush 66, 2) := by decide +kernel
theorem dX7_init_434 : decode cX7_init 434 = .ok (.bipush 110, 2) := by decide +kernel
theorem dX7_init_436 : decode cX7_init 436 = .ok (.castore, 1) := by decide +kernel
theorem dX7_init_437 : decode cX7_init 437 = .ok (.dup, 1) := by decide +kernel
theorem dX7_init_438 : decode cX7_init 438 = .ok (.bipush 67, 2) := by decide +kernel
theorem dX7_init_440 : decode cX7_init 440 = .ok (.bipush 111, 2) := by decide +kernel
theorem dX7_init_442 : decode cX7_init 442 = .ok (.castore, 1) := by decide +kernel
theorem dX7_init_443 : decode cX7_init 443 = .ok (.dup, 1) := by decide +kernel
theorem dX7_init_444 : decode cX7_init 444 = .ok (.bipush 68, 2) := by decide +kernel
theorem dX7_init_446 : decode cX7_init 446 = .ok (.bipush 116, 2) := by decide +kernel
theorem dX7_init_448 : decode cX7_init 448 = .ok (.castore, 1) := by decide +kernel
theorem dX7_init_449 : decode cX7_init 449 = .ok (.dup, 1) := by decide +kernel
theorem dX7_init_450 : decode cX7_init 450 = .ok (.bipush 69, 2) := by decide +kernel
theorem dX7_init_452 : decode cX7_init 452 = .ok (.iconst 0, 1) := by decide +kernel
theorem dX7_init_453 : decode cX7_init 453 = .ok (.castore, 1) := by decide +kernel
theorem dX7_init_454 : decode cX7_init 454 = .ok (.dup, 1) := by decide +kernel
theorem dX7_init_455 : decode cX7_init 455 = .ok (.bipush 70, 2) := by decide +kernel
theorem dX7_init_457 : decode cX7_init 457 = .ok (.iconst 0, 1) := by decide +kernel
theorem dX7_init_458 : decode cX7_init 458 = .ok (.castore, 1) := by decide +kernel
theorem dX7_init_459 : decode cX7_init 459 = .ok (.dup, 1) := by decide +kernel
theorem dX7_init_460 : decode cX7_init 460 = .ok (.bipush 71, 2) := by decide +kernel
theorem dX7_init_462 : decode cX7_init 462 = .ok (.iconst 0, 1) := by decide +kernel
theorem dX7_init_463 : decode cX7_init 463 = .ok (.castore, 1) := by decide +kernel
theorem dX7_init_464 : decode cX7_init 464 = .ok (.putfield 33, 3) := by decide +kernel
theorem dX7_init_467 : decode cX7_init 467 = .ok (.aload_n 0, 1) := by decide +kernel
theorem dX7_init_468 : decode cX7_init 468 = .ok (.sipush 160, 3) := by decide +kernel
theorem dX7_init_471 : decode cX7_init 471 = .ok (.newarray .int, 2) := by decide +kernel
theorem dX7_init_473 : decode cX7_init 473 = .ok (.putfield 37, 3) := by decide +kernel
theorem dX7_init_476 : decode cX7_init 476 = .ok (.aload_n 0, 1) := by decide +kernel
theorem dX7_init_477 : decode cX7_init 477 = .ok (.sipush 160, 3) := by decide +kernel
theorem dX7_init_480 : decode cX7_init 480 = .ok (.newarray .int, 2) := by decide +kernel
theorem dX7_init_482 : decode cX7_init 482 = .ok (.putfield 40, 3) := by decide +kernel
theorem dX7_init_485 : decode cX7_init 485 = .ok (.aload_n 0, 1) := by decide +kernel
theorem dX7_init_486 : decode cX7_init 486 = .ok (.sipush 600, 3) := by decide +kernel
theorem dX7_init_489 : decode cX7_init 489 = .ok (.newarray .int, 2) := by decide +kernel
theorem dX7_init_491 : decode cX7_init 491 = .ok (.putfield 43, 3) := by decide +kernel
theorem dX7_init_494 : decode cX7_init 494 = .ok (.aload_n 0, 1) := by decide +kernel
theorem dX7_init_495 : decode cX7_init 495 = .ok (.bipush 100, 2) := by decide +kernel
theorem dX7_init_497 : decode cX7_init 497 = .ok (.newarray .int, 2) := by decide +kernel
theorem dX7_init_499 : decode cX7_init 499 = .ok (.putfield 46, 3) := by decide +kernel
theorem dX7_init_502 : decode cX7_init 502 = .ok (.aload_n 0, 1) := by decide +kernel
theorem dX7_init_503 : decode cX7_init 503 = .ok (.bipush 100, 2) := by decide +kernel
theorem dX7_init_505 : decode cX7_init 505 = .ok (.newarray .int, 2) := by decide +kernel
theorem dX7_init_507 : decode cX7_init 507 = .ok (.putfield 49, 3) := by decide +kernel
theorem dX7_init_510 : decode cX7_init 510 = .ok (.aload_n 0, 1) := by decide +kernel
theorem dX7_init_511 : decode cX7_init 511 = .ok (.bipush 100, 2) := by decide +kernel
theorem dX7_init_513 : decode cX7_init 513 = .ok (.newarray .boolean, 2) := by decide +kernel
theorem dX7_init_515 : decode cX7_init 515 = .ok (.putfield 52, 3) := by decide +kernel
theorem dX7_init_518 : decode cX7_init 518 = .ok (.aload_n 0, 1) := by decide +kernel
theorem dX7_init_519 : decode cX7_init 519 = .ok (.bipush 100, 2) := by decide +kernel
theorem dX7_init_521 : decode cX7_init 521 = .ok (.newarray .long, 2) := by decide +kernel
theorem dX7_init_523 : decode cX7_init 523 = .ok (.putfield 56, 3) := by decide +kernel
theorem dX7_init_526 : decode cX7_init 526 = .ok (.aload_n 0, 1) := by decide +kernel
theorem dX7_init_527 : decode cX7_init 527 = .ok (.bipush 100, 2) := by decide +kernel
theorem dX7_init_529 : decode cX7_init 529 = .ok (.newarray .long, 2) := by decide +kernel
theorem dX7_init_531 : decode cX7_init 531 = .ok (.putfield 60, 3) := by decide +kernel
theorem dX7_init_534 : decode cX7_init 534 = .ok (.aload_n 0, 1) := by decide +kernel
theorem dX7_init_535 : decode cX7_init 535 = .ok (.iconst 4, 1) := by decide +kernel
theorem dX7_init_536 : decode cX7_init 536 = .ok (.newarray .int, 2) := by decide +kernel
theorem dX7_init_538 : decode cX7_init 538 = .ok (.dup, 1) := by decide +kernel
theorem dX7_init_539 : decode cX7_init 539 = .ok (.iconst 0, 1) := by decide +kernel
theorem dX7_init_540 : decode cX7_init 540 = .ok (.iconst (-1), 1) := by decide +kernel
theorem dX7_init_541 : decode cX7_init 541 = .ok (.iastore, 1) := by decide +kernel
theorem dX7_init_542 : decode cX7_init 542 = .ok (.dup, 1) := by decide +kernel
theorem dX7_init_543 : decode cX7_init 543 = .ok (.iconst 1, 1) := by decide +kernel
theorem dX7_init_544 : decode cX7_init 544 = .ok (.iconst (-1), 1) := by decide +kernel
theorem dX7_init_545 : decode cX7_init 545 = .ok (.iastore, 1) := by decide +kernel
theorem dX7_init_546 : decode cX7_init 546 = .ok (.dup, 1) := by decide +kernel
theorem dX7_init_547 : decode cX7_init 547 = .ok (.iconst 2, 1) := by decide +kernel
theorem dX7_init_548 : decode cX7_init 548 = .ok (.iconst (-1), 1) := by decide +kernel
theorem dX7_init_549 : decode cX7_init 549 = .ok (.iastore, 1) := by decide +kernel
theorem dX7_init_550 : decode cX7_init 550 = .ok (.dup, 1) := by decide +kernel
theorem dX7_init_551 : decode cX7_init 551 = .ok (.iconst 3, 1) := by decide +kernel
theorem dX7_init_552 : decode cX7_init 552 = .ok (.iconst (-1), 1) := by decide +kernel
theorem dX7_init_553 : decode cX7_init 553 = .ok (.iastore, 1) := by decide +kernel
theorem dX7_init_554 : decode cX7_init 554 = .ok (.putfield 63, 3) := by decide +kernel
theorem dX7_init_557 : decode cX7_init 557 = .ok (.aload_n 0, 1) := by decide +kernel
theorem dX7_init_558 : decode cX7_init 558 = .ok (.iconst 4, 1) := by decide +kernel
theorem dX7_init_559 : decode cX7_init 559 = .ok (.newarray .int, 2) := by decide +kernel
theorem dX7_init_561 : decode cX7_init 561 = .ok (.putfield 66, 3) := by decide +kernel
theorem dX7_init_564 : decode cX7_init 564 = .ok (.aload_n 0, 1) := by decide +kernel
theorem dX7_init_565 : decode cX7_init 565 = .ok (.sipush 160, 3) := by decide +kernel
theorem dX7_init_568 : decode cX7_init 568 = .ok (.newarray .int, 2) := by decide +kernel
theorem dX7_init_570 : decode cX7_init 570 = .ok (.putfield 69, 3) := by decide +kernel
theorem dX7_init_573 : decode cX7_init 573 = .ok (.aload_n 0, 1) := by decide +kernel
theorem dX7_init_574 : decode cX7_init 574 = .ok (.bipush 40, 2) := by decide +kernel
theorem dX7_init_576 : decode cX7_init 576 = .ok (.newarray .int, 2) := by decide +kernel
theorem dX7_init_578 : decode cX7_init 578 = .ok (.putfield 72, 3) := by decide +kernel
theorem dX7_init_581 : decode cX7_init 581 = .ok (.aload_n 0, 1) := by decide +kernel
theorem dX7_init_582 : decode cX7_init 582 = .ok (.bipush 6, 2) := by decide +kernel
theorem dX7_init_584 : decode cX7_init 584 = .ok (.newarray .int, 2) := by decide +kernel
theorem dX7_init_586 : decode cX7_init 586 = .ok (.dup, 1) := by decide +kernel
theorem dX7_init_587 : decode cX7_init 587 = .ok (.iconst 0, 1) := by decide +kernel
theorem dX7_init_588 : decode cX7_init 588 = .ok (.iconst (-1), 1) := by decide +kernel
theorem dX7_init_589 : decode cX7_init 589 = .ok (.iastore, 1) := by decide +kernel
theorem dX7_init_590 : decode cX7_init 590 = .ok (.dup, 1) := by decide +kernel
theorem dX7_init_591 : decode cX7_init 591 = .ok (.iconst 1, 1) := by decide +kernel
theorem dX7_init_592 : decode cX7_init 592 = .ok (.iconst 0, 1) := by decide +kernel
theorem dX7_init_593 : decode cX7_init 593 = .ok (.iastore, 1) := by decide +kernel
theorem dX7_init_594 : decode cX7_init 594 = .ok (.dup, 1) := by decide +kernel
theorem dX7_init_595 : decode cX7_init 595 = .ok (.iconst 2, 1) := by decide +kernel
theorem dX7_init_596 : decode cX7_init 596 = .ok (.iconst 0, 1) := by decide +kernel
theorem dX7_init_597 : decode cX7_init 597 = .ok (.iastore, 1) := by decide +kernel
theorem dX7_init_598 : decode cX7_init 598 = .ok (.dup, 1) := by decide +kernel
theorem dX7_init_599 : decode cX7_init 599 = .ok (.iconst 3, 1) := by decide +kernel
theorem dX7_init_600 : decode cX7_init 600 = .ok (.iconst 1, 1) := by decide +kernel
theorem dX7_init_601 : decode cX7_init 601 = .ok (.iastore, 1) := by decide +kernel
theorem dX7_init_602 : decode cX7_init 602 = .ok (.dup, 1) := by decide +kernel
theorem dX7_init_603 : decode cX7_init 603 = .ok (.iconst 4, 1) := by decide +kernel
theorem dX7_init_604 : decode cX7_init 604 = .ok (.iconst 2, 1) := by decide +kernel
theorem dX7_init_605 : decode cX7_init 605 = .ok (.iastore, 1) := by decide +kernel
theorem dX7_init_606 : decode cX7_init 606 = .ok (.dup, 1) := by decide +kernel
theorem dX7_init_607 : decode cX7_init 607 = .ok (.iconst 5, 1) := by decide +kernel
theorem dX7_init_608 : decode cX7_init 608 = .ok (.iconst 0, 1) := by decide +kernel
theorem dX7_init_609 : decode cX7_init 609 = .ok (.iastore, 1) := by decide +kernel
theorem dX7_init_610 : decode cX7_init 610 = .ok (.putfield 75, 3) := by decide +kernel
theorem dX7_init_613 : decode cX7_init 613 = .ok (.return_, 1) := by decide +kernel
theorem dX7_isIn_0 : decode cX7_isIn 0 = .ok (.iload_n 0, 1) := by decide +kernel
theorem dX7_isIn_1 : decode cX7_isIn 1 = .ok (.iload_n 1, 1) := by decide +kernel
theorem dX7_isIn_2 : decode cX7_isIn 2 = .ok (.if_icmp .lt 12, 3) := by decide +kernel
theorem dX7_isIn_5 : decode cX7_isIn 5 = .ok (.iload_n 0, 1) := by decide +kernel
theorem dX7_isIn_6 : decode cX7_isIn 6 = .ok (.iload_n 2, 1) := by decide +kernel
theorem dX7_isIn_7 : decode cX7_isIn 7 = .ok (.if_icmp .gt 7, 3) := by decide +kernel
theorem dX7_isIn_10 : decode cX7_isIn 10 = .ok (.iconst 1, 1) := by decide +kernel
theorem dX7_isIn_11 : decode cX7_isIn 11 = .ok (.goto 4, 3) := by decide +kernel
theorem dX7_isIn_14 : decode cX7_isIn 14 = .ok (.iconst 0, 1) := by decide +kernel
theorem dX7_isIn_15 : decode cX7_isIn 15 = .ok (.ireturn, 1) := by decide +kernel
theorem dX7_bound_0 : decode cX7_bound 0 = .ok (.iload_n 0, 1) := by decide +kernel
theorem dX7_bound_1 : decode cX7_bound 1 = .ok (.iload_n 1, 1) := by decide +kernel
theorem dX7_bound_2 : decode cX7_bound 2 = .ok (.if_icmp .ge 7, 3) := by decide +kernel
theorem dX7_bound_5 : decode cX7_bound 5 = .ok (.iload_n 1, 1) := by decide +kernel
theorem dX7_bound_6 : decode cX7_bound 6 = .ok (.goto 13, 3) := by decide +kernel
theorem dX7_bound_9 : decode cX7_bound 9 = .ok (.iload_n 0, 1) := by decide +kernel
theorem dX7_bound_10 : decode cX7_bound 10 = .ok (.iload_n 2, 1) := by decide +kernel
theorem dX7_bound_11 : decode cX7_bound 11 = .ok (.if_icmp .le 7, 3) := by decide +kernel
theorem dX7_bound_14 : decode cX7_bound 14 = .ok (.iload_n 2, 1) := by decide +kernel
theorem dX7_bound_15 : decode cX7_bound 15 = .ok (.goto 4, 3) := by decide +kernel
theorem dX7_bound_18 : decode cX7_bound 18 = .ok (.iload_n 0, 1) := by decide +kernel
theorem dX7_bound_19 : decode cX7_bound 19 = .ok (.ireturn, 1) := by decide +kernel
theorem dX7_many_0 : decode cX7_many 0 = .ok (.aload_n 0, 1) := by decide +kernel
theorem dX7_many_1 : decode cX7_many 1 = .ok (.getfield 7, 3) := by decide +kernel
theorem dX7_many_4 : decode cX7_many 4 = .ok (.bipush 60, 2) := by decide +kernel
theorem dX7_many_6 : decode cX7_many 6 = .ok (.iaload, 1) := by decide +kernel
theorem dX7_many_7 : decode cX7_many 7 = .ok (.ireturn, 1) := by decide +kernel
theorem dX7_isPair_0 : decode cX7_isPair 0 = .ok (.iload_n 1, 1) := by decide +kernel
theorem dX7_isPair_1 : decode cX7_isPair 1 = .ok (.iconst 0, 1) := by decide +kernel
theorem dX7_isPair_2 : decode cX7_isPair 2 = .ok (.aload_n 0, 1) := by decide +kernel
theorem dX7_isPair_3 : decode cX7_isPair 3 = .ok (.getfield 7, 3) := by decide +kernel
theorem dX7_isPair_6 : decode cX7_isPair 6 = .ok (.bipush 60, 2) := by decide +kernel
theorem dX7_isPair_8 : decode cX7_isPair 8 = .ok (.iaload, 1) := by decide +kernel
theorem dX7_isPair_9 : decode cX7_isPair 9 = .ok (.iconst 1, 1) := by decide +kernel
theorem dX7_isPair_10 : decode cX7_isPair 10 = .ok (.isub, 1) := by decide +kernel
theorem dX7_isPair_11 : decode cX7_isPair 11 = .ok (.invokestatic 78, 3) := by decide +kernel
theorem dX7_isPair_14 : decode cX7_isPair 14 = .ok (.ireturn, 1) := by decide +kernel
theorem dX7_kind_0 : decode cX7_kind 0 = .ok (.aload_n 0, 1) := by decide +kernel
theorem dX7_kind_1 : decode cX7_kind 1 = .ok (.getfield 7, 3) := by decide +kernel
theorem dX7_kind_4 : decode cX7_kind 4 = .ok (.bipush 40, 2) := by decide +kernel
theorem dX7_kind_6 : decode cX7_kind 6 = .ok (.iconst 4, 1) := by decide +kernel
theorem dX7_kind_7 : decode cX7_kind 7 = .ok (.iload_n 1, 1) := by decide +kernel
theorem dX7_kind_8 : decode cX7_kind 8 = .ok (.imul, 1) := by decide +kernel
theorem dX7_kind_9 : decode cX7_kind 9 = .ok (.iadd, 1) := by decide +kernel
theorem dX7_kind_10 : decode cX7_kind 10 = .ok (.iaload, 1) := by decide +kernel
theorem dX7_kind_11 : decode cX7_kind 11 = .ok (.ireturn, 1) := by decide +kernel
theorem dX7_number_0 : decode cX7_number 0 = .ok (.aload_n 0, 1) := by decide +kernel
theorem dX7_number_1 : decode cX7_number 1 = .ok (.getfield 7, 3) := by decide +kernel
theorem dX7_number_4 : decode cX7_number 4 = .ok (.bipush 40, 2) := by decide +kernel
theorem dX7_number_6 : decode cX7_number 6 = .ok (.iconst 4, 1) := by decide +kernel
theorem dX7_number_7 : decode cX7_number 7 = .ok (.iload_n 1, 1) := by decide +kernel
theorem dX7_number_8 : decode cX7_number 8 = .ok (.imul, 1) := by decide +kernel
theorem dX7_number_9 : decode cX7_number 9 = .ok (.iadd, 1) := by decide +kernel
theorem dX7_number_10 : decode cX7_number 10 = .ok (.iconst 1, 1) := by decide +kernel
theorem dX7_number_11 : decode cX7_number 11 = .ok (.iadd, 1) := by decide +kernel
theorem dX7_number_12 : decode cX7_number 12 = .ok (.iaload, 1) := by decide +kernel
theorem dX7_number_13 : decode cX7_number 13 = .ok (.ireturn, 1) := by decide +kernel
theorem dX7_anger_0 : decode cX7_anger 0 = .ok (.aload_n 0, 1) := by decide +kernel
theorem dX7_anger_1 : decode cX7_anger 1 = .ok (.getfield 7, 3) := by decide +kernel
theorem dX7_anger_4 : decode cX7_anger 4 = .ok (.bipush 40, 2) := by decide +kernel
theorem dX7_anger_6 : decode cX7_anger 6 = .ok (.iconst 4, 1) := by decide +kernel
theorem dX7_anger_7 : decode cX7_anger 7 = .ok (.iload_n 1, 1) := by decide +kernel
theorem dX7_anger_8 : decode cX7_anger 8 = .ok (.imul, 1) := by decide +kernel
theorem dX7_anger_9 : decode cX7_anger 9 = .ok (.iadd, 1) := by decide +kernel
theorem dX7_anger_10 : decode cX7_anger 10 = .ok (.iconst 2, 1) := by decide +kernel
theorem dX7_anger_11 : decode cX7_anger 11 = .ok (.iadd, 1) := by decide +kernel
theorem dX7_anger_12 : decode cX7_anger 12 = .ok (.iaload, 1) := by decide +kernel
theorem dX7_anger_13 : decode cX7_anger 13 = .ok (.ireturn, 1) := by decide +kernel
theorem dX7_most_0 : decode cX7_most 0 = .ok (.iload_n 0, 1) := by decide +kernel
theorem dX7_most_1 : decode cX7_most 1 = .ok (.ifCond .eq 8, 3) := by decide +kernel
theorem dX7_most_4 : decode cX7_most 4 = .ok (.iload_n 0, 1) := by decide +kernel
theorem dX7_most_5 : decode cX7_most 5 = .ok (.iconst 3, 1) := by decide +kernel
theorem dX7_most_6 : decode cX7_most 6 = .ok (.if_icmp .ne 8, 3) := by decide +kernel
theorem dX7_most_9 : decode cX7_most 9 = .ok (.bipush 99, 2) := by decide +kernel
theorem dX7_most_11 : decode cX7_most 11 = .ok (.goto 15, 3) := by decide +kernel
theorem dX7_most_14 : decode cX7_most 14 = .ok (.iload_n 0, 1) := by decide +kernel
theorem dX7_most_15 : decode cX7_most 15 = .ok (.iconst 1, 1) := by decide +kernel
theorem dX7_most_16 : decode cX7_most 16 = .ok (.if_icmp .ne 8, 3) := by decide +kernel
theorem dX7_most_19 : decode cX7_most 19 = .ok (.bipush 7, 2) := by decide +kernel
theorem dX7_most_21 : decode cX7_most 21 = .ok (.goto 5, 3) := by decide +kernel
theorem dX7_most_24 : decode cX7_most 24 = .ok (.bipush 9, 2) := by decide +kernel
theorem dX7_most_26 : decode cX7_most 26 = .ok (.ireturn, 1) := by decide +kernel
theorem dX7_place_0 : decode cX7_place 0 = .ok (.iload_n 1, 1) := by decide +kernel
theorem dX7_place_1 : decode cX7_place 1 = .ok (.ifCond .ne 6, 3) := by decide +kernel
theorem dX7_place_4 : decode cX7_place 4 = .ok (.bipush 61, 2) := by decide +kernel
theorem dX7_place_6 : decode cX7_place 6 = .ok (.ireturn, 1) := by decide +kernel
theorem dX7_place_7 : decode cX7_place 7 = .ok (.iload_n 1, 1) := by decide +kernel
theorem dX7_place_8 : decode cX7_place 8 = .ok (.iconst 1, 1) := by decide +kernel
theorem dX7_place_9 : decode cX7_place 9 = .ok (.if_icmp .ne 19, 3) := by decide +kernel
theorem dX7_place_12 : decode cX7_place 12 = .ok (.iload_n 2, 1) := by decide +kernel
theorem dX7_place_13 : decode cX7_place 13 = .ok (.iconst 0, 1) := by decide +kernel
theorem dX7_place_14 : decode cX7_place 14 = .ok (.bipush 39, 2) := by decide +kernel
theorem dX7_place_16 : decode cX7_place 16 = .ok (.invokestatic 78, 3) := by decide +kernel
theorem dX7_place_19 : decode cX7_place 19 = .ok (.ifCond .eq 7, 3) := by decide +kernel
theorem dX7_place_22 : decode cX7_place 22 = .ok (.iload_n 2, 1) := by decide +kernel
theorem dX7_place_23 : decode cX7_place 23 = .ok (.goto 4, 3) := by decide +kernel
theorem dX7_place_26 : decode cX7_place 26 = .ok (.iconst (-1), 1) := by decide +kernel
theorem dX7_place_27 : decode cX7_place 27 = .ok (.ireturn, 1) := by decide +kernel
theorem dX7_place_28 : decode cX7_place 28 = .ok (.aload_n 0, 1) := by decide +kernel
theorem dX7_place_29 : decode cX7_place 29 = .ok (.iload_n 2, 1) := by decide +kernel
theorem dX7_place_30 : decode cX7_place 30 = .ok (.invokevirtual 82, 3) := by decide +kernel
theorem dX7_place_33 : decode cX7_place 33 = .ok (.ifCond .eq 16, 3) := by decide +kernel
theorem dX7_place_36 : decode cX7_place 36 = .ok (.bipush 40, 2) := by decide +kernel
theorem dX7_place_38 : decode cX7_place 38 = .ok (.iconst 4, 1) := by decide +kernel
theorem dX7_place_39 : decode cX7_place 39 = .ok (.iload_n 2, 1) := by decide +kernel
theorem dX7_place_40 : decode cX7_place 40 = .ok (.imul, 1) := by decide +kernel
theorem dX7_place_41 : decode cX7_place 41 = .ok (.iadd, 1) := by decide +kernel
theorem dX7_place_42 : decode cX7_place 42 = .ok (.iload_n 1, 1) := by decide +kernel
theorem dX7_place_43 : decode cX7_place 43 = .ok (.iadd, 1) := by decide +kernel
theorem dX7_place_44 : decode cX7_place 44 = .ok (.iconst 1, 1) := by decide +kernel
theorem dX7_place_45 : decode cX7_place 45 = .ok (.isub, 1) := by decide +kernel
theorem dX7_place_46 : decode cX7_place 46 = .ok (.goto 4, 3) := by decide +kernel
theorem dX7_place_49 : decode cX7_place 49 = .ok (.iconst (-1), 1) := by decide +kernel
theorem dX7_place_50 : decode cX7_place 50 = .ok (.ireturn, 1) := by decide +kernel
theorem dX7_set_0 : decode cX7_set 0 = .ok (.iload_n 1, 1) := by decide +kernel
theorem dX7_set_1 : decode cX7_set 1 = .ok (.iconst 0, 1) := by decide +kernel
theorem dX7_set_2 : decode cX7_set 2 = .ok (.iconst 3, 1) := by decide +kernel
theorem dX7_set_3 : decode cX7_set 3 = .ok (.invokestatic 78, 3) := by decide +kernel
theorem dX7_set_6 : decode cX7_set 6 = .ok (.ifCond .eq 25, 3) := by decide +kernel
theorem dX7_set_9 : decode cX7_set 9 = .ok (.iload_n 3, 1) := by decide +kernel
theorem dX7_set_10 : decode cX7_set 10 = .ok (.iconst 0, 1) := by decide +kernel
theorem dX7_set_11 : decode cX7_set 11 = .ok (.iload_n 1, 1) := by decide +kernel
theorem dX7_set_12 : decode cX7_set 12 = .ok (.invokestatic 86, 3) := by decide +kernel
theorem dX7_set_15 : decode cX7_set 15 = .ok (.invokestatic 78, 3) := by decide +kernel
theorem dX7_set_18 : decode cX7_set 18 = .ok (.ifCond .eq 13, 3) := by decide +kernel
theorem dX7_set_21 : decode cX7_set 21 = .ok (.aload_n 0, 1) := by decide +kernel
theorem dX7_set_22 : decode cX7_set 22 = .ok (.iload_n 1, 1) := by decide +kernel
theorem dX7_set_23 : decode cX7_set 23 = .ok (.iload_n 2, 1) := by decide +kernel
theorem dX7_set_24 : decode cX7_set 24 = .ok (.invokevirtual 90, 3) := by decide +kernel
theorem dX7_set_27 : decode cX7_set 27 = .ok (.iconst (-1), 1) := by decide +kernel
theorem dX7_set_28 : decode cX7_set 28 = .ok (.if_icmp .ne 6, 3) := by decide +kernel
theorem dX7_set_31 : decode cX7_set 31 = .ok (.bipush (-2), 2) := by decide +kernel
theorem dX7_set_33 : decode cX7_set 33 = .ok (.ireturn, 1) := by decide +kernel
theorem dX7_set_34 : decode cX7_set 34 = .ok (.aload_n 0, 1) := by decide +kernel
theorem dX7_set_35 : decode cX7_set 35 = .ok (.getfield 7, 3) := by decide +kernel
theorem dX7_set_38 : decode cX7_set 38 = .ok (.aload_n 0, 1) := by decide +kernel
theorem dX7_set_39 : decode cX7_set 39 = .ok (.iload_n 1, 1) := by decide +kernel
theorem dX7_set_40 : decode cX7_set 40 = .ok (.iload_n 2, 1) := by decide +kernel
theorem dX7_set_41 : decode cX7_set 41 = .ok (.invokevirtual 90, 3) := by decide +kernel
theorem dX7_set_44 : decode cX7_set 44 = .ok (.iaload, 1) := by decide +kernel
theorem dX7_set_45 : decode cX7_set 45 = .ok (.istore 4, 2) := by decide +kernel
theorem dX7_set_47 : decode cX7_set 47 = .ok (.aload_n 0, 1) := by decide +kernel
theorem dX7_set_48 : decode cX7_set 48 = .ok (.getfield 7, 3) := by decide +kernel
theorem dX7_set_51 : decode cX7_set 51 = .ok (.aload_n 0, 1) := by decide +kernel
theorem dX7_set_52 : decode cX7_set 52 = .ok (.iload_n 1, 1) := by decide +kernel
theorem dX7_set_53 : decode cX7_set 53 = .ok (.iload_n 2, 1) := by decide +kernel
theorem dX7_set_54 : decode cX7_set 54 = .ok (.invokevirtual 90, 3) := by decide +kernel
theorem dX7_set_57 : decode cX7_set 57 = .ok (.iload_n 3, 1) := by decide +kernel
theorem dX7_set_58 : decode cX7_set 58 = .ok (.iastore, 1) := by decide +kernel
theorem dX7_set_59 : decode cX7_set 59 = .ok (.iload 4, 2) := by decide +kernel
theorem dX7_set_61 : decode cX7_set 61 = .ok (.ireturn, 1) := by decide +kernel
theorem dX7_pair_0 : decode cX7_pair 0 = .ok (.iload_n 1, 1) := by decide +kernel
theorem dX7_pair_1 : decode cX7_pair 1 = .ok (.iconst 0, 1) := by decide +kernel
theorem dX7_pair_2 : decode cX7_pair 2 = .ok (.iconst 5, 1) := by decide +kernel
theorem dX7_pair_3 : decode cX7_pair 3 = .ok (.invokestatic 78, 3) := by decide +kernel
theorem dX7_pair_6 : decode cX7_pair 6 = .ok (.ifCond .eq 23, 3) := by decide +kernel
theorem dX7_pair_9 : decode cX7_pair 9 = .ok (.iload_n 2, 1) := by decide +kernel
theorem dX7_pair_10 : decode cX7_pair 10 = .ok (.iconst 0, 1) := by decide +kernel
theorem dX7_pair_11 : decode cX7_pair 11 = .ok (.bipush 9, 2) := by decide +kernel
theorem dX7_pair_13 : decode cX7_pair 13 = .ok (.invokestatic 78, 3) := by decide +kernel
theorem dX7_pair_16 : decode cX7_pair 16 = .ok (.ifCond .eq 13, 3) := by decide +kernel
theorem dX7_pair_19 : decode cX7_pair 19 = .ok (.iload_n 3, 1) := by decide +kernel
theorem dX7_pair_20 : decode cX7_pair 20 = .ok (.iconst 0, 1) := by decide +kernel
theorem dX7_pair_21 : decode cX7_pair 21 = .ok (.bipush 99, 2) := by decide +kernel
theorem dX7_pair_23 : decode cX7_pair 23 = .ok (.invokestatic 78, 3) := by decide +kernel
theorem dX7_pair_26 : decode cX7_pair 26 = .ok (.ifCond .ne 6, 3) := by decide +kernel
theorem dX7_pair_29 : decode cX7_pair 29 = .ok (.bipush (-2), 2) := by decide +kernel
theorem dX7_pair_31 : decode cX7_pair 31 = .ok (.ireturn, 1) := by decide +kernel
theorem dX7_pair_32 : decode cX7_pair 32 = .ok (.aload_n 0, 1) := by decide +kernel
theorem dX7_pair_33 : decode cX7_pair 33 = .ok (.invokevirtual 94, 3) := by decide +kernel
theorem dX7_pair_36 : decode cX7_pair 36 = .ok (.iconst 5, 1) := by decide +kernel
theorem dX7_pair_37 : decode cX7_pair 37 = .ok (.if_icmp .ne 6, 3) := by decide +kernel
theorem dX7_pair_40 : decode cX7_pair 40 = .ok (.bipush (-4), 2) := by decide +kernel
theorem dX7_pair_42 : decode cX7_pair 42 = .ok (.ireturn, 1) := by decide +kernel
theorem dX7_pair_43 : decode cX7_pair 43 = .ok (.aload_n 0, 1) := by decide +kernel
theorem dX7_pair_44 : decode cX7_pair 44 = .ok (.invokevirtual 94, 3) := by decide +kernel
theorem dX7_pair_47 : decode cX7_pair 47 = .ok (.istore 4, 2) := by decide +kernel
theorem dX7_pair_49 : decode cX7_pair 49 = .ok (.aload_n 0, 1) := by decide +kernel
theorem dX7_pair_50 : decode cX7_pair 50 = .ok (.getfield 7, 3) := by decide +kernel
theorem dX7_pair_53 : decode cX7_pair 53 = .ok (.bipush 40, 2) := by decide +kernel
theorem dX7_pair_55 : decode cX7_pair 55 = .ok (.iconst 4, 1) := by decide +kernel
theorem dX7_pair_56 : decode cX7_pair 56 = .ok (.iload 4, 2) := by decide +kernel
theorem dX7_pair_58 : decode cX7_pair 58 = .ok (.imul, 1) := by decide +kernel
theorem dX7_pair_59 : decode cX7_pair 59 = .ok (.iadd, 1) := by decide +kernel
theorem dX7_pair_60 : decode cX7_pair 60 = .ok (.iload_n 1, 1) := by decide +kernel
theorem dX7_pair_61 : decode cX7_pair 61 = .ok (.iastore, 1) := by decide +kernel
theorem dX7_pair_62 : decode cX7_pair 62 = .ok (.aload_n 0, 1) := by decide +kernel
theorem dX7_pair_63 : decode cX7_pair 63 = .ok (.getfield 7, 3) := by decide +kernel
theorem dX7_pair_66 : decode cX7_pair 66 = .ok (.bipush 40, 2) := by decide +kernel
theorem dX7_pair_68 : decode cX7_pair 68 = .ok (.iconst 4, 1) := by decide +kernel
theorem dX7_pair_69 : decode cX7_pair 69 = .ok (.iload 4, 2) := by decide +kernel
theorem dX7_pair_71 : decode cX7_pair 71 = .ok (.imul, 1) := by decide +kernel
theorem dX7_pair_72 : decode cX7_pair 72 = .ok (.iadd, 1) := by decide +kernel
theorem dX7_pair_73 : decode cX7_pair 73 = .ok (.iconst 1, 1) := by decide +kernel
theorem dX7_pair_74 : decode cX7_pair 74 = .ok (.iadd, 1) := by decide +kernel
theorem dX7_pair_75 : decode cX7_pair 75 = .ok (.iload_n 2, 1) := by decide +kernel
theorem dX7_pair_76 : decode cX7_pair 76 = .ok (.iastore, 1) := by decide +kernel
theorem dX7_pair_77 : decode cX7_pair 77 = .ok (.aload_n 0, 1) := by decide +kernel
theorem dX7_pair_78 : decode cX7_pair 78 = .ok (.getfield 7, 3) := by decide +kernel
theorem dX7_pair_81 : decode cX7_pair 81 = .ok (.bipush 40, 2) := by decide +kernel
theorem dX7_pair_83 : decode cX7_pair 83 = .ok (.iconst 4, 1) := by decide +kernel
theorem dX7_pair_84 : decode cX7_pair 84 = .ok (.iload 4, 2) := by decide +kernel
theorem dX7_pair_86 : decode cX7_pair 86 = .ok (.imul, 1) := by decide +kernel
theorem dX7_pair_87 : decode cX7_pair 87 = .ok (.iadd, 1) := by decide +kernel
theorem dX7_pair_88 : decode cX7_pair 88 = .ok (.iconst 2, 1) := by decide +kernel
theorem dX7_pair_89 : decode cX7_pair 89 = .ok (.iadd, 1) := by decide +kernel
theorem dX7_pair_90 : decode cX7_pair 90 = .ok (.iload_n 3, 1) := by decide +kernel
theorem dX7_pair_91 : decode cX7_pair 91 = .ok (.iastore, 1) := by decide +kernel
theorem dX7_pair_92 : decode cX7_pair 92 = .ok (.aload_n 0, 1) := by decide +kernel
theorem dX7_pair_93 : decode cX7_pair 93 = .ok (.getfield 7, 3) := by decide +kernel
theorem dX7_pair_96 : decode cX7_pair 96 = .ok (.bipush 40, 2) := by decide +kernel
theorem dX7_pair_98 : decode cX7_pair 98 = .ok (.iconst 4, 1) := by decide +kernel
theorem dX7_pair_99 : decode cX7_pair 99 = .ok (.iload 4, 2) := by decide +kernel
theorem dX7_pair_101 : decode cX7_pair 101 = .ok (.imul, 1) := by decide +kernel
theorem dX7_pair_102 : decode cX7_pair 102 = .ok (.iadd, 1) := by decide +kernel
theorem dX7_pair_103 : decode cX7_pair 103 = .ok (.iconst 3, 1) := by decide +kernel
theorem dX7_pair_104 : decode cX7_pair 104 = .ok (.iadd, 1) := by decide +kernel
theorem dX7_pair_105 : decode cX7_pair 105 = .ok (.iconst 0, 1) := by decide +kernel
theorem dX7_pair_106 : decode cX7_pair 106 = .ok (.iastore, 1) := by decide +kernel
theorem dX7_pair_107 : decode cX7_pair 107 = .ok (.aload_n 0, 1) := by decide +kernel
theorem dX7_pair_108 : decode cX7_pair 108 = .ok (.getfield 7, 3) := by decide +kernel
theorem dX7_pair_111 : decode cX7_pair 111 = .ok (.bipush 60, 2) := by decide +kernel
theorem dX7_pair_113 : decode cX7_pair 113 = .ok (.dup2, 1) := by decide +kernel
theorem dX7_pair_114 : decode cX7_pair 114 = .ok (.iaload, 1) := by decide +kernel
theorem dX7_pair_115 : decode cX7_pair 115 = .ok (.iconst 1, 1) := by decide +kernel
theorem dX7_pair_116 : decode cX7_pair 116 = .ok (.iadd, 1) := by decide +kernel
theorem dX7_pair_117 : decode cX7_pair 117 = .ok (.iastore, 1) := by decide +kernel
theorem dX7_pair_118 : decode cX7_pair 118 = .ok (.iload 4, 2) := by decide +kernel
theorem dX7_pair_120 : decode cX7_pair 120 = .ok (.ireturn, 1) := by decide +kernel
theorem dX7_told_0 : decode cX7_told 0 = .ok (.iload_n 2, 1) := by decide +kernel
theorem dX7_told_1 : decode cX7_told 1 = .ok (.ifCond .eq 8, 3) := by decide +kernel
theorem dX7_told_4 : decode cX7_told 4 = .ok (.iload_n 2, 1) := by decide +kernel
theorem dX7_told_5 : decode cX7_told 5 = .ok (.iconst 1, 1) := by decide +kernel
theorem dX7_told_6 : decode cX7_told 6 = .ok (.if_icmp .ne 31, 3) := by decide +kernel
theorem dX7_told_9 : decode cX7_told 9 = .ok (.aload_n 0, 1) := by decide +kernel
theorem dX7_told_10 : decode cX7_told 10 = .ok (.iload_n 2, 1) := by decide +kernel
theorem dX7_told_11 : decode cX7_told 11 = .ok (.iload_n 1, 1) := by decide +kernel
theorem dX7_told_12 : decode cX7_told 12 = .ok (.invokevirtual 90, 3) := by decide +kernel
theorem dX7_told_15 : decode cX7_told 15 = .ok (.iconst (-1), 1) := by decide +kernel
theorem dX7_told_16 : decode cX7_told 16 = .ok (.if_icmp .ne 9, 3) := by decide +kernel
theorem dX7_told_19 : decode cX7_told 19 = .ok (.sipush (-1000), 3) := by decide +kernel
theorem dX7_told_22 : decode cX7_told 22 = .ok (.goto 14, 3) := by decide +kernel
theorem dX7_told_25 : decode cX7_told 25 = .ok (.aload_n 0, 1) := by decide +kernel
theorem dX7_told_26 : decode cX7_told 26 = .ok (.getfield 7, 3) := by decide +kernel
theorem dX7_told_29 : decode cX7_told 29 = .ok (.aload_n 0, 1) := by decide +kernel
theorem dX7_told_30 : decode cX7_told 30 = .ok (.iload_n 2, 1) := by decide +kernel
theorem dX7_told_31 : decode cX7_told 31 = .ok (.iload_n 1, 1) := by decide +kernel
theorem dX7_told_32 : decode cX7_told 32 = .ok (.invokevirtual 90, 3) := by decide +kernel
theorem dX7_told_35 : decode cX7_told 35 = .ok (.iaload, 1) := by decide +kernel
theorem dX7_told_36 : decode cX7_told 36 = .ok (.ireturn, 1) := by decide +kernel
theorem dX7_told_37 : decode cX7_told 37 = .ok (.aload_n 0, 1) := by decide +kernel
theorem dX7_told_38 : decode cX7_told 38 = .ok (.iload_n 1, 1) := by decide +kernel
theorem dX7_told_39 : decode cX7_told 39 = .ok (.invokevirtual 82, 3) := by decide +kernel
theorem dX7_told_42 : decode cX7_told 42 = .ok (.ifCond .ne 7, 3) := by decide +kernel
theorem dX7_told_45 : decode cX7_told 45 = .ok (.sipush (-1000), 3) := by decide +kernel
theorem dX7_told_48 : decode cX7_told 48 = .ok (.ireturn, 1) := by decide +kernel
theorem dX7_told_49 : decode cX7_told 49 = .ok (.aload_n 0, 1) := by decide +kernel
theorem dX7_told_50 : decode cX7_told 50 = .ok (.iload_n 1, 1) := by decide +kernel
theorem dX7_told_51 : decode cX7_told 51 = .ok (.invokevirtual 97, 3) := by decide +kernel
theorem dX7_told_54 : decode cX7_told 54 = .ok (.aload_n 0, 1) := by decide +kernel
theorem dX7_told_55 : decode cX7_told 55 = .ok (.iload_n 1, 1) := by decide +kernel
theorem dX7_told_56 : decode cX7_told 56 = .ok (.invokevirtual 101, 3) := by decide +kernel
theorem dX7_told_59 : decode cX7_told 59 = .ok (.istore_n 3, 1) := by decide +kernel
theorem dX7_told_60 : decode cX7_told 60 = .ok (.iload_n 2, 1) := by decide +kernel
theorem dX7_told_61 : decode cX7_told 61 = .ok (.tableswitch 79 2 7 #[39, 45, 47, 53, 67, 73], 39) := by decide +kernel
theorem dX7_told_100 : decode cX7_told 100 = .ok (.aload_n 0, 1) := by decide +kernel
theorem dX7_told_101 : decode cX7_told 101 = .ok (.iload_n 1, 1) := by decide +kernel
theorem dX7_told_102 : decode cX7_told 102 = .ok (.invokevirtual 104, 3) := by decide +kernel
theorem dX7_told_105 : decode cX7_told 105 = .ok (.ireturn, 1) := by decide +kernel
theorem dX7_told_106 : decode cX7_told 106 = .ok (.iload_n 3, 1) := by decide +kernel
theorem dX7_told_107 : decode cX7_told 107 = .ok (.ireturn, 1) := by decide +kernel
theorem dX7_told_108 : decode cX7_told 108 = .ok (.aload_n 0, 1) := by decide +kernel
theorem dX7_told_109 : decode cX7_told 109 = .ok (.iload_n 1, 1) := by decide +kernel
theorem dX7_told_110 : decode cX7_told 110 = .ok (.invokevirtual 107, 3) := by decide +kernel
theorem dX7_told_113 : decode cX7_told 113 = .ok (.ireturn, 1) := by decide +kernel
theorem dX7_told_114 : decode cX7_told 114 = .ok (.aload_n 0, 1) := by decide +kernel
theorem dX7_told_115 : decode cX7_told 115 = .ok (.getfield 7, 3) := by decide +kernel
theorem dX7_told_118 : decode cX7_told 118 = .ok (.bipush 40, 2) := by decide +kernel
theorem dX7_told_120 : decode cX7_told 120 = .ok (.iconst 4, 1) := by decide +kernel
theorem dX7_told_121 : decode cX7_told 121 = .ok (.iload_n 1, 1) := by decide +kernel
theorem dX7_told_122 : decode cX7_told 122 = .ok (.imul, 1) := by decide +kernel
theorem dX7_told_123 : decode cX7_told 123 = .ok (.iadd, 1) := by decide +kernel
theorem dX7_told_124 : decode cX7_told 124 = .ok (.iconst 3, 1) := by decide +kernel
theorem dX7_told_125 : decode cX7_told 125 = .ok (.iadd, 1) := by decide +kernel
theorem dX7_told_126 : decode cX7_told 126 = .ok (.iaload, 1) := by decide +kernel
theorem dX7_told_127 : decode cX7_told 127 = .ok (.ireturn, 1) := by decide +kernel
theorem dX7_told_128 : decode cX7_told 128 = .ok (.aload_n 0, 1) := by decide +kernel
theorem dX7_told_129 : decode cX7_told 129 = .ok (.iload_n 3, 1) := by decide +kernel
theorem dX7_told_130 : decode cX7_told 130 = .ok (.invokevirtual 110, 3) := by decide +kernel
theorem dX7_told_133 : decode cX7_told 133 = .ok (.ireturn, 1) := by decide +kernel
theorem dX7_told_134 : decode cX7_told 134 = .ok (.aload_n 0, 1) := by decide +kernel
theorem dX7_told_135 : decode cX7_told 135 = .ok (.iload_n 3, 1) := by decide +kernel
theorem dX7_told_136 : decode cX7_told 136 = .ok (.invokevirtual 113, 3) := by decide +kernel
theorem dX7_told_139 : decode cX7_told 139 = .ok (.ireturn, 1) := by decide +kernel
theorem dX7_told_140 : decode cX7_told 140 = .ok (.iload_n 2, 1) := by decide +kernel
theorem dX7_told_141 : decode cX7_told 141 = .ok (.bipush 10, 2) := by decide +kernel
theorem dX7_told_143 : decode cX7_told 143 = .ok (.bipush 15, 2) := by decide +kernel
theorem dX7_told_145 : decode cX7_told 145 = .ok (.invokestatic 78, 3) := by decide +kernel
theorem dX7_told_148 : decode cX7_told 148 = .ok (.ifCond .eq 15, 3) := by decide +kernel
theorem dX7_told_151 : decode cX7_told 151 = .ok (.aload_n 0, 1) := by decide +kernel
theorem dX7_told_152 : decode cX7_told 152 = .ok (.iload_n 3, 1) := by decide +kernel
theorem dX7_told_153 : decode cX7_told 153 = .ok (.iload_n 2, 1) := by decide +kernel
theorem dX7_told_154 : decode cX7_told 154 = .ok (.bipush 10, 2) := by decide +kernel
theorem dX7_told_156 : decode cX7_told 156 = .ok (.isub, 1) := by decide +kernel
theorem dX7_told_157 : decode cX7_told 157 = .ok (.invokevirtual 116, 3) := by decide +kernel
theorem dX7_told_160 : decode cX7_told 160 = .ok (.goto 6, 3) := by decide +kernel
theorem dX7_told_163 : decode cX7_told 163 = .ok (.sipush (-1000), 3) := by decide +kernel
theorem dX7_told_166 : decode cX7_told 166 = .ok (.ireturn, 1) := by decide +kernel
theorem dX7_things_0 : decode cX7_things 0 = .ok (.iconst 0, 1) := by decide +kernel
theorem dX7_things_1 : decode cX7_things 1 = .ok (.istore_n 1, 1) := by decide +kernel
theorem dX7_things_2 : decode cX7_things 2 = .ok (.iconst 0, 1) := by decide +kernel
theorem dX7_things_3 : decode cX7_things 3 = .ok (.istore_n 2, 1) := by decide +kernel
theorem dX7_things_4 : decode cX7_things 4 = .ok (.iload_n 2, 1) := by decide +kernel
theorem dX7_things_5 : decode cX7_things 5 = .ok (.bipush 40, 2) := by decide +kernel
theorem dX7_things_7 : decode cX7_things 7 = .ok (.if_icmp .ge 26, 3) := by decide +kernel
theorem dX7_things_10 : decode cX7_things 10 = .ok (.iload_n 1, 1) := by decide +kernel
theorem dX7_things_11 : decode cX7_things 11 = .ok (.aload_n 0, 1) := by decide +kernel
theorem dX7_things_12 : decode cX7_things 12 = .ok (.getfield 7, 3) := by decide +kernel
theorem dX7_things_15 : decode cX7_things 15 = .ok (.iload_n 2, 1) := by decide +kernel
theorem dX7_things_16 : decode cX7_things 16 = .ok (.iaload, 1) := by decide +kernel
theorem dX7_things_17 : decode cX7_things 17 = .ok (.ifCond .eq 7, 3) := by decide +kernel
theorem dX7_things_20 : decode cX7_things 20 = .ok (.iconst 1, 1) := by decide +kernel
theorem dX7_things_21 : decode cX7_things 21 = .ok (.goto 4, 3) := by decide +kernel
theorem dX7_things_24 : decode cX7_things 24 = .ok (.iconst 0, 1) := by decide +kernel
theorem dX7_things_25 : decode cX7_things 25 = .ok (.iadd, 1) := by decide +kernel
theorem dX7_things_26 : decode cX7_things 26 = .ok (.istore_n 1, 1) := by decide +kernel
theorem dX7_things_27 : decode cX7_things 27 = .ok (.iinc 2 1, 3) := by decide +kernel
theorem dX7_things_30 : decode cX7_things 30 = .ok (.goto (-26), 3) := by decide +kernel
theorem dX7_things_33 : decode cX7_things 33 = .ok (.iload_n 1, 1) := by decide +kernel
theorem dX7_things_34 : decode cX7_things 34 = .ok (.ireturn, 1) := by decide +kernel
theorem dX7_firstText_0 : decode cX7_firstText 0 = .ok (.bipush 7, 2) := by decide +kernel
theorem dX7_firstText_2 : decode cX7_firstText 2 = .ok (.newarray .int, 2) := by decide +kernel
theorem dX7_firstText_4 : decode cX7_firstText 4 = .ok (.dup, 1) := by decide +kernel
theorem dX7_firstText_5 : decode cX7_firstText 5 = .ok (.iconst 0, 1) := by decide +kernel
theorem dX7_firstText_6 : decode cX7_firstText 6 = .ok (.iconst 5, 1) := by decide +kernel
theorem dX7_firstText_7 : decode cX7_firstText 7 = .ok (.iastore, 1) := by decide +kernel
theorem dX7_firstText_8 : decode cX7_firstText 8 = .ok (.dup, 1) := by decide +kernel
theorem dX7_firstText_9 : decode cX7_firstText 9 = .ok (.iconst 1, 1) := by decide +kernel
theorem dX7_firstText_10 : decode cX7_firstText 10 = .ok (.bipush (-10), 2) := by decide +kernel
theorem dX7_firstText_12 : decode cX7_firstText 12 = .ok (.iastore, 1) := by decide +kernel
theorem dX7_firstText_13 : decode cX7_firstText 13 = .ok (.dup, 1) := by decide +kernel
theorem dX7_firstText_14 : decode cX7_firstText 14 = .ok (.iconst 2, 1) := by decide +kernel
theorem dX7_firstText_15 : decode cX7_firstText 15 = .ok (.iconst 3, 1) := by decide +kernel
theorem dX7_firstText_16 : decode cX7_firstText 16 = .ok (.iastore, 1) := by decide +kernel
theorem dX7_firstText_17 : decode cX7_firstText 17 = .ok (.dup, 1) := by decide +kernel
theorem dX7_firstText_18 : decode cX7_firstText 18 = .ok (.iconst 3, 1) := by decide +kernel
theorem dX7_firstText_19 : decode cX7_firstText 19 = .ok (.bipush (-27), 2) := by decide +kernel
theorem dX7_firstText_21 : decode cX7_firstText 21 = .ok (.iastore, 1) := by decide +kernel
theorem dX7_firstText_22 : decode cX7_firstText 22 = .ok (.dup, 1) := by decide +kernel
theorem dX7_firstText_23 : decode cX7_firstText 23 = .ok (.iconst 4, 1) := by decide +kernel
theorem dX7_firstText_24 : decode cX7_firstText 24 = .ok (.bipush (-25), 2) := by decide +kernel
theorem dX7_firstText_26 : decode cX7_firstText 26 = .ok (.iastore, 1) := by decide +kernel
theorem dX7_firstText_27 : decode cX7_firstText 27 = .ok (.dup, 1) := by decide +kernel
theorem dX7_firstText_28 : decode cX7_firstText 28 = .ok (.iconst 5, 1) := by decide +kernel
theorem dX7_firstText_29 : decode cX7_firstText 29 = .ok (.iconst 2, 1) := by decide +kernel
theorem dX7_firstText_30 : decode cX7_firstText 30 = .ok (.iastore, 1) := by decide +kernel
theorem dX7_firstText_31 : decode cX7_firstText 31 = .ok (.dup, 1) := by decide +kernel
theorem dX7_firstText_32 : decode cX7_firstText 32 = .ok (.bipush 6, 2) := by decide +kernel
theorem dX7_firstText_34 : decode cX7_firstText 34 = .ok (.bipush (-11), 2) := by decide +kernel
theorem dX7_firstText_36 : decode cX7_firstText 36 = .ok (.iastore, 1) := by decide +kernel
theorem dX7_firstText_37 : decode cX7_firstText 37 = .ok (.astore_n 1, 1) := by decide +kernel
theorem dX7_firstText_38 : decode cX7_firstText 38 = .ok (.iconst 0, 1) := by decide +kernel
theorem dX7_firstText_39 : decode cX7_firstText 39 = .ok (.istore_n 2, 1) := by decide +kernel
theorem dX7_firstText_40 : decode cX7_firstText 40 = .ok (.iload_n 2, 1) := by decide +kernel
theorem dX7_firstText_41 : decode cX7_firstText 41 = .ok (.bipush 7, 2) := by decide +kernel
theorem dX7_firstText_43 : decode cX7_firstText 43 = .ok (.if_icmp .ge 18, 3) := by decide +kernel
theorem dX7_firstText_46 : decode cX7_firstText 46 = .ok (.aload_n 0, 1) := by decide +kernel
theorem dX7_firstText_47 : decode cX7_firstText 47 = .ok (.getfield 19, 3) := by decide +kernel
theorem dX7_firstText_50 : decode cX7_firstText 50 = .ok (.iload_n 2, 1) := by decide +kernel
theorem dX7_firstText_51 : decode cX7_firstText 51 = .ok (.aload_n 1, 1) := by decide +kernel
theorem dX7_firstText_52 : decode cX7_firstText 52 = .ok (.iload_n 2, 1) := by decide +kernel
theorem dX7_firstText_53 : decode cX7_firstText 53 = .ok (.iaload, 1) := by decide +kernel
theorem dX7_firstText_54 : decode cX7_firstText 54 = .ok (.iastore, 1) := by decide +kernel
theorem dX7_firstText_55 : decode cX7_firstText 55 = .ok (.iinc 2 1, 3) := by decide +kernel
theorem dX7_firstText_58 : decode cX7_firstText 58 = .ok (.goto (-18), 3) := by decide +kernel
theorem dX7_firstText_61 : decode cX7_firstText 61 = .ok (.aload_n 0, 1) := by decide +kernel
theorem dX7_firstText_62 : decode cX7_firstText 62 = .ok (.getfield 22, 3) := by decide +kernel
theorem dX7_firstText_65 : decode cX7_firstText 65 = .ok (.iconst 0, 1) := by decide +kernel
theorem dX7_firstText_66 : decode cX7_firstText 66 = .ok (.iconst 5, 1) := by decide +kernel
theorem dX7_firstText_67 : decode cX7_firstText 67 = .ok (.iastore, 1) := by decide +kernel
theorem dX7_firstText_68 : decode cX7_firstText 68 = .ok (.aload_n 0, 1) := by decide +kernel
theorem dX7_firstText_69 : decode cX7_firstText 69 = .ok (.getfield 22, 3) := by decide +kernel
theorem dX7_firstText_72 : decode cX7_firstText 72 = .ok (.iconst 1, 1) := by decide +kernel
theorem dX7_firstText_73 : decode cX7_firstText 73 = .ok (.bipush 6, 2) := by decide +kernel
theorem dX7_firstText_75 : decode cX7_firstText 75 = .ok (.iastore, 1) := by decide +kernel
theorem dX7_firstText_76 : decode cX7_firstText 76 = .ok (.aload_n 0, 1) := by decide +kernel
theorem dX7_firstText_77 : decode cX7_firstText 77 = .ok (.getfield 22, 3) := by decide +kernel
theorem dX7_firstText_80 : decode cX7_firstText 80 = .ok (.iconst 2, 1) := by decide +kernel
theorem dX7_firstText_81 : decode cX7_firstText 81 = .ok (.bipush 7, 2) := by decide +kernel
theorem dX7_firstText_83 : decode cX7_firstText 83 = .ok (.iastore, 1) := by decide +kernel
theorem dX7_firstText_84 : decode cX7_firstText 84 = .ok (.iconst 1, 1) := by decide +kernel
theorem dX7_firstText_85 : decode cX7_firstText 85 = .ok (.ireturn, 1) := by decide +kernel
theorem dX7_feed_0 : decode cX7_feed 0 = .ok (.iload_n 1, 1) := by decide +kernel
theorem dX7_feed_1 : decode cX7_feed 1 = .ok (.iconst 0, 1) := by decide +kernel
theorem dX7_feed_2 : decode cX7_feed 2 = .ok (.sipush 255, 3) := by decide +kernel
theorem dX7_feed_5 : decode cX7_feed 5 = .ok (.invokestatic 78, 3) := by decide +kernel
theorem dX7_feed_8 : decode cX7_feed 8 = .ok (.ifCond .ne 6, 3) := by decide +kernel
theorem dX7_feed_11 : decode cX7_feed 11 = .ok (.bipush (-2), 2) := by decide +kernel
theorem dX7_feed_13 : decode cX7_feed 13 = .ok (.ireturn, 1) := by decide +kernel
theorem dX7_feed_14 : decode cX7_feed 14 = .ok (.aload_n 0, 1) := by decide +kernel
theorem dX7_feed_15 : decode cX7_feed 15 = .ok (.getfield 119, 3) := by decide +kernel
theorem dX7_feed_18 : decode cX7_feed 18 = .ok (.sipush 160, 3) := by decide +kernel
theorem dX7_feed_21 : decode cX7_feed 21 = .ok (.if_icmp .ne 6, 3) := by decide +kernel
theorem dX7_feed_24 : decode cX7_feed 24 = .ok (.bipush (-4), 2) := by decide +kernel
theorem dX7_feed_26 : decode cX7_feed 26 = .ok (.ireturn, 1) := by decide +kernel
theorem dX7_feed_27 : decode cX7_feed 27 = .ok (.aload_n 0, 1) := by decide +kernel
theorem dX7_feed_28 : decode cX7_feed 28 = .ok (.getfield 16, 3) := by decide +kernel
theorem dX7_feed_31 : decode cX7_feed 31 = .ok (.aload_n 0, 1) := by decide +kernel
theorem dX7_feed_32 : decode cX7_feed 32 = .ok (.getfield 119, 3) := by decide +kernel
theorem dX7_feed_35 : decode cX7_feed 35 = .ok (.iload_n 1, 1) := by decide +kernel
theorem dX7_feed_36 : decode cX7_feed 36 = .ok (.iastore, 1) := by decide +kernel
theorem dX7_feed_37 : decode cX7_feed 37 = .ok (.aload_n 0, 1) := by decide +kernel
theorem dX7_feed_38 : decode cX7_feed 38 = .ok (.dup, 1) := by decide +kernel
theorem dX7_feed_39 : decode cX7_feed 39 = .ok (.getfield 119, 3) := by decide +kernel
theorem dX7_feed_42 : decode cX7_feed 42 = .ok (.iconst 1, 1) := by decide +kernel
theorem dX7_feed_43 : decode cX7_feed 43 = .ok (.iadd, 1) := by decide +kernel
theorem dX7_feed_44 : decode cX7_feed 44 = .ok (.putfield 119, 3) := by decide +kernel
theorem dX7_feed_47 : decode cX7_feed 47 = .ok (.aload_n 0, 1) := by decide +kernel
theorem dX7_feed_48 : decode cX7_feed 48 = .ok (.getfield 119, 3) := by decide +kernel
theorem dX7_feed_51 : decode cX7_feed 51 = .ok (.ireturn, 1) := by decide +kernel
theorem dX7_sortAt_0 : decode cX7_sortAt 0 = .ok (.iload_n 1, 1) := by decide +kernel
theorem dX7_sortAt_1 : decode cX7_sortAt 1 = .ok (.aload_n 0, 1) := by decide +kernel
theorem dX7_sortAt_2 : decode cX7_sortAt 2 = .ok (.getfield 119, 3) := by decide +kernel
theorem dX7_sortAt_5 : decode cX7_sortAt 5 = .ok (.if_icmp .lt 7, 3) := by decide +kernel
theorem dX7_sortAt_8 : decode cX7_sortAt 8 = .ok (.iconst 0, 1) := by decide +kernel
theorem dX7_sortAt_9 : decode cX7_sortAt 9 = .ok (.goto 44, 3) := by decide +kernel
theorem dX7_sortAt_12 : decode cX7_sortAt 12 = .ok (.aload_n 0, 1) := by decide +kernel
theorem dX7_sortAt_13 : decode cX7_sortAt 13 = .ok (.getfield 16, 3) := by decide +kernel
theorem dX7_sortAt_16 : decode cX7_sortAt 16 = .ok (.iload_n 1, 1) := by decide +kernel
theorem dX7_sortAt_17 : decode cX7_sortAt 17 = .ok (.iaload, 1) := by decide +kernel
theorem dX7_sortAt_18 : decode cX7_sortAt 18 = .ok (.bipush 97, 2) := by decide +kernel
theorem dX7_sortAt_20 : decode cX7_sortAt 20 = .ok (.bipush 122, 2) := by decide +kernel
theorem dX7_sortAt_22 : decode cX7_sortAt 22 = .ok (.invokestatic 78, 3) := by decide +kernel
theorem dX7_sortAt_25 : decode cX7_sortAt 25 = .ok (.ifCond .eq 7, 3) := by decide +kernel
theorem dX7_sortAt_28 : decode cX7_sortAt 28 = .ok (.iconst 1, 1) := by decide +kernel
theorem dX7_sortAt_29 : decode cX7_sortAt 29 = .ok (.goto 24, 3) := by decide +kernel
theorem dX7_sortAt_32 : decode cX7_sortAt 32 = .ok (.aload_n 0, 1) := by decide +kernel
theorem dX7_sortAt_33 : decode cX7_sortAt 33 = .ok (.getfield 16, 3) := by decide +kernel
theorem dX7_sortAt_36 : decode cX7_sortAt 36 = .ok (.iload_n 1, 1) := by decide +kernel
theorem dX7_sortAt_37 : decode cX7_sortAt 37 = .ok (.iaload, 1) := by decide +kernel
theorem dX7_sortAt_38 : decode cX7_sortAt 38 = .ok (.bipush 48, 2) := by decide +kernel
theorem dX7_sortAt_40 : decode cX7_sortAt 40 = .ok (.bipush 57, 2) := by decide +kernel
theorem dX7_sortAt_42 : decode cX7_sortAt 42 = .ok (.invokestatic 78, 3) := by decide +kernel
theorem dX7_sortAt_45 : decode cX7_sortAt 45 = .ok (.ifCond .eq 7, 3) := by decide +kernel
theorem dX7_sortAt_48 : decode cX7_sortAt 48 = .ok (.iconst 2, 1) := by decide +kernel
theorem dX7_sortAt_49 : decode cX7_sortAt 49 = .ok (.goto 4, 3) := by decide +kernel
theorem dX7_sortAt_52 : decode cX7_sortAt 52 = .ok (.iconst 3, 1) := by decide +kernel
theorem dX7_sortAt_53 : decode cX7_sortAt 53 = .ok (.ireturn, 1) := by decide +kernel
theorem dX7_next_0 : decode cX7_next 0 = .ok (.aload_n 0, 1) := by decide +kernel
theorem dX7_next_1 : decode cX7_next 1 = .ok (.getfield 122, 3) := by decide +kernel
theorem dX7_next_4 : decode cX7_next 4 = .ok (.aload_n 0, 1) := by decide +kernel
theorem dX7_next_5 : decode cX7_next 5 = .ok (.getfield 119, 3) := by decide +kernel
theorem dX7_next_8 : decode cX7_next 8 = .ok (.if_icmp .ge 44, 3) := by decide +kernel
theorem dX7_next_11 : decode cX7_next 11 = .ok (.aload_n 0, 1) := by decide +kernel
theorem dX7_next_12 : decode cX7_next 12 = .ok (.getfield 16, 3) := by decide +kernel
theorem dX7_next_15 : decode cX7_next 15 = .ok (.aload_n 0, 1) := by decide +kernel
theorem dX7_next_16 : decode cX7_next 16 = .ok (.getfield 122, 3) := by decide +kernel
theorem dX7_next_19 : decode cX7_next 19 = .ok (.iaload, 1) := by decide +kernel
theorem dX7_next_20 : decode cX7_next 20 = .ok (.bipush 32, 2) := by decide +kernel
theorem dX7_next_22 : decode cX7_next 22 = .ok (.if_icmp .eq 17, 3) := by decide +kernel
theorem dX7_next_25 : decode cX7_next 25 = .ok (.aload_n 0, 1) := by decide +kernel
theorem dX7_next_26 : decode cX7_next 26 = .ok (.getfield 16, 3) := by decide +kernel
theorem dX7_next_29 : decode cX7_next 29 = .ok (.aload_n 0, 1) := by decide +kernel
theorem dX7_next_30 : decode cX7_next 30 = .ok (.getfield 122, 3) := by decide +kernel
theorem dX7_next_33 : decode cX7_next 33 = .ok (.iaload, 1) := by decide +kernel
theorem dX7_next_34 : decode cX7_next 34 = .ok (.bipush 10, 2) := by decide +kernel
theorem dX7_next_36 : decode cX7_next 36 = .ok (.if_icmp .ne 16, 3) := by decide +kernel
theorem dX7_next_39 : decode cX7_next 39 = .ok (.aload_n 0, 1) := by decide +kernel
theorem dX7_next_40 : decode cX7_next 40 = .ok (.dup, 1) := by decide +kernel
theorem dX7_next_41 : decode cX7_next 41 = .ok (.getfield 122, 3) := by decide +kernel
theorem dX7_next_44 : decode cX7_next 44 = .ok (.iconst 1, 1) := by decide +kernel
theorem dX7_next_45 : decode cX7_next 45 = .ok (.iadd, 1) := by decide +kernel
theorem dX7_next_46 : decode cX7_next 46 = .ok (.putfield 122, 3) := by decide +kernel
theorem dX7_next_49 : decode cX7_next 49 = .ok (.goto (-49), 3) := by decide +kernel
theorem dX7_next_52 : decode cX7_next 52 = .ok (.aload_n 0, 1) := by decide +kernel
theorem dX7_next_53 : decode cX7_next 53 = .ok (.aload_n 0, 1) := by decide +kernel
theorem dX7_next_54 : decode cX7_next 54 = .ok (.getfield 122, 3) := by decide +kernel
theorem dX7_next_57 : decode cX7_next 57 = .ok (.putfield 125, 3) := by decide +kernel
theorem dX7_next_60 : decode cX7_next 60 = .ok (.aload_n 0, 1) := by decide +kernel
theorem dX7_next_61 : decode cX7_next 61 = .ok (.aload_n 0, 1) := by decide +kernel
theorem dX7_next_62 : decode cX7_next 62 = .ok (.aload_n 0, 1) := by decide +kernel
theorem dX7_next_63 : decode cX7_next 63 = .ok (.getfield 122, 3) := by decide +kernel
theorem dX7_next_66 : decode cX7_next 66 = .ok (.invokevirtual 128, 3) := by decide +kernel
theorem dX7_next_69 : decode cX7_next 69 = .ok (.putfield 131, 3) := by decide +kernel
theorem dX7_next_72 : decode cX7_next 72 = .ok (.aload_n 0, 1) := by decide +kernel
theorem dX7_next_73 : decode cX7_next 73 = .ok (.getfield 131, 3) := by decide +kernel
theorem dX7_next_76 : decode cX7_next 76 = .ok (.ifCond .le 49, 3) := by decide +kernel
theorem dX7_next_79 : decode cX7_next 79 = .ok (.aload_n 0, 1) := by decide +kernel
theorem dX7_next_80 : decode cX7_next 80 = .ok (.dup, 1) := by decide +kernel
theorem dX7_next_81 : decode cX7_next 81 = .ok (.getfield 122, 3) := by decide +kernel
theorem dX7_next_84 : decode cX7_next 84 = .ok (.iconst 1, 1) := by decide +kernel
theorem dX7_next_85 : decode cX7_next 85 = .ok (.iadd, 1) := by decide +kernel
theorem dX7_next_86 : decode cX7_next 86 = .ok (.putfield 122, 3) := by decide +kernel
theorem dX7_next_89 : decode cX7_next 89 = .ok (.aload_n 0, 1) := by decide +kernel
theorem dX7_next_90 : decode cX7_next 90 = .ok (.getfield 131, 3) := by decide +kernel
theorem dX7_next_93 : decode cX7_next 93 = .ok (.iconst 3, 1) := by decide +kernel
theorem dX7_next_94 : decode cX7_next 94 = .ok (.if_icmp .ge 31, 3) := by decide +kernel
theorem dX7_next_97 : decode cX7_next 97 = .ok (.aload_n 0, 1) := by decide +kernel
theorem dX7_next_98 : decode cX7_next 98 = .ok (.aload_n 0, 1) := by decide +kernel
theorem dX7_next_99 : decode cX7_next 99 = .ok (.getfield 122, 3) := by decide +kernel
theorem dX7_next_102 : decode cX7_next 102 = .ok (.invokevirtual 128, 3) := by decide +kernel
theorem dX7_next_105 : decode cX7_next 105 = .ok (.aload_n 0, 1) := by decide +kernel
theorem dX7_next_106 : decode cX7_next 106 = .ok (.getfield 131, 3) := by decide +kernel
theorem dX7_next_109 : decode cX7_next 109 = .ok (.if_icmp .ne 16, 3) := by decide +kernel
theorem dX7_next_112 : decode cX7_next 112 = .ok (.aload_n 0, 1) := by decide +kernel
theorem dX7_next_113 : decode cX7_next 113 = .ok (.dup, 1) := by decide +kernel
theorem dX7_next_114 : decode cX7_next 114 = .ok (.getfield 122, 3) := by decide +kernel
theorem dX7_next_117 : decode cX7_next 117 = .ok (.iconst 1, 1) := by decide +kernel
theorem dX7_next_118 : decode cX7_next 118 = .ok (.iadd, 1) := by decide +kernel
theorem dX7_next_119 : decode cX7_next 119 = .ok (.putfield 122, 3) := by decide +kernel
theorem dX7_next_122 : decode cX7_next 122 = .ok (.goto (-33), 3) := by decide +kernel
theorem dX7_next_125 : decode cX7_next 125 = .ok (.return_, 1) := by decide +kernel
theorem dX7_word_0 : decode cX7_word 0 = .ok (.iconst (-1), 1) := by decide +kernel
theorem dX7_word_1 : decode cX7_word 1 = .ok (.istore_n 1, 1) := by decide +kernel
theorem dX7_word_2 : decode cX7_word 2 = .ok (.iconst 0, 1) := by decide +kernel
theorem dX7_word_3 : decode cX7_word 3 = .ok (.istore_n 2, 1) := by decide +kernel
theorem dX7_word_4 : decode cX7_word 4 = .ok (.iload_n 2, 1) := by decide +kernel
theorem dX7_word_5 : decode cX7_word 5 = .ok (.bipush 12, 2) := by decide +kernel
theorem dX7_word_7 : decode cX7_word 7 = .ok (.if_icmp .ge 118, 3) := by decide +kernel
theorem dX7_word_10 : decode cX7_word 10 = .ok (.aload_n 0, 1) := by decide +kernel
theorem dX7_word_11 : decode cX7_word 11 = .ok (.getfield 131, 3) := by decide +kernel
theorem dX7_word_14 : decode cX7_word 14 = .ok (.iconst 1, 1) := by decide +kernel
theorem dX7_word_15 : decode cX7_word 15 = .ok (.if_icmp .ne 21, 3) := by decide +kernel
theorem dX7_word_18 : decode cX7_word 18 = .ok (.aload_n 0, 1) := by decide +kernel
theorem dX7_word_19 : decode cX7_word 19 = .ok (.getfield 122, 3) := by decide +kernel
theorem dX7_word_22 : decode cX7_word 22 = .ok (.aload_n 0, 1) := by decide +kernel
theorem dX7_word_23 : decode cX7_word 23 = .ok (.getfield 125, 3) := by decide +kernel
theorem dX7_word_26 : decode cX7_word 26 = .ok (.isub, 1) := by decide +kernel
theorem dX7_word_27 : decode cX7_word 27 = .ok (.bipush 6, 2) := by decide +kernel
theorem dX7_word_29 : decode cX7_word 29 = .ok (.if_icmp .gt 7, 3) := by decide +kernel
theorem dX7_word_32 : decode cX7_word 32 = .ok (.iconst 1, 1) := by decide +kernel
theorem dX7_word_33 : decode cX7_word 33 = .ok (.goto 4, 3) := by decide +kernel
theorem dX7_word_36 : decode cX7_word 36 = .ok (.iconst 0, 1) := by decide +kernel
theorem dX7_word_37 : decode cX7_word 37 = .ok (.istore_n 3, 1) := by decide +kernel
theorem dX7_word_38 : decode cX7_word 38 = .ok (.iconst 0, 1) := by decide +kernel
theorem dX7_word_39 : decode cX7_word 39 = .ok (.istore 4, 2) := by decide +kernel
theorem dX7_word_41 : decode cX7_word 41 = .ok (.iload_n 3, 1) := by decide +kernel
theorem dX7_word_42 : decode cX7_word 42 = .ok (.ifCond .eq 67, 3) := by decide +kernel
theorem dX7_word_45 : decode cX7_word 45 = .ok (.iload 4, 2) := by decide +kernel
theorem dX7_word_47 : decode cX7_word 47 = .ok (.bipush 6, 2) := by decide +kernel
theorem dX7_word_49 : decode cX7_word 49 = .ok (.if_icmp .ge 60, 3) := by decide +kernel
theorem dX7_word_52 : decode cX7_word 52 = .ok (.aload_n 0, 1) := by decide +kernel
theorem dX7_word_53 : decode cX7_word 53 = .ok (.getfield 33, 3) := by decide +kernel
theorem dX7_word_56 : decode cX7_word 56 = .ok (.bipush 6, 2) := by decide +kernel
theorem dX7_word_58 : decode cX7_word 58 = .ok (.iload_n 2, 1) := by decide +kernel
theorem dX7_word_59 : decode cX7_word 59 = .ok (.imul, 1) := by decide +kernel
theorem dX7_word_60 : decode cX7_word 60 = .ok (.iload 4, 2) := by decide +kernel
theorem dX7_word_62 : decode cX7_word 62 = .ok (.iadd, 1) := by decide +kernel
theorem dX7_word_63 : decode cX7_word 63 = .ok (.caload, 1) := by decide +kernel
theorem dX7_word_64 : decode cX7_word 64 = .ok (.aload_n 0, 1) := by decide +kernel
theorem dX7_word_65 : decode cX7_word 65 = .ok (.getfield 125, 3) := by decide +kernel
theorem dX7_word_68 : decode cX7_word 68 = .ok (.iload 4, 2) := by decide +kernel
theorem dX7_word_70 : decode cX7_word 70 = .ok (.iadd, 1) := by decide +kernel
theorem dX7_word_71 : decode cX7_word 71 = .ok (.aload_n 0, 1) := by decide +kernel
theorem dX7_word_72 : decode cX7_word 72 = .ok (.getfield 122, 3) := by decide +kernel
theorem dX7_word_75 : decode cX7_word 75 = .ok (.if_icmp .ge 18, 3) := by decide +kernel
theorem dX7_word_78 : decode cX7_word 78 = .ok (.aload_n 0, 1) := by decide +kernel
theorem dX7_word_79 : decode cX7_word 79 = .ok (.getfield 16, 3) := by decide +kernel
theorem dX7_word_82 : decode cX7_word 82 = .ok (.aload_n 0, 1) := by decide +kernel
theorem dX7_word_83 : decode cX7_word 83 = .ok (.getfield 125, 3) := by decide +kernel
theorem dX7_word_86 : decode cX7_word 86 = .ok (.iload 4, 2) := by decide +kernel
theorem dX7_word_88 : decode cX7_word 88 = .ok (.iadd, 1) := by decide +kernel
theorem dX7_word_89 : decode cX7_word 89 = .ok (.iaload, 1) := by decide +kernel
theorem dX7_word_90 : decode cX7_word 90 = .ok (.goto 4, 3) := by decide +kernel
theorem dX7_word_93 : decode cX7_word 93 = .ok (.iconst 0, 1) := by decide +kernel
theorem dX7_word_94 : decode cX7_word 94 = .ok (.if_icmp .ne 7, 3) := by decide +kernel
theorem dX7_word_97 : decode cX7_word 97 = .ok (.iconst 1, 1) := by decide +kernel
theorem dX7_word_98 : decode cX7_word 98 = .ok (.goto 4, 3) := by decide +kernel
theorem dX7_word_101 : decode cX7_word 101 = .ok (.iconst 0, 1) := by decide +kernel
theorem dX7_word_102 : decode cX7_word 102 = .ok (.istore_n 3, 1) := by decide +kernel
theorem dX7_word_103 : decode cX7_word 103 = .ok (.iinc 4 1, 3) := by decide +kernel
theorem dX7_word_106 : decode cX7_word 106 = .ok (.goto (-65), 3) := by decide +kernel
theorem dX7_word_109 : decode cX7_word 109 = .ok (.iload_n 3, 1) := by decide +kernel
theorem dX7_word_110 : decode cX7_word 110 = .ok (.ifCond .eq 7, 3) := by decide +kernel
theorem dX7_word_113 : decode cX7_word 113 = .ok (.iload_n 2, 1) := by decide +kernel
theorem dX7_word_114 : decode cX7_word 114 = .ok (.goto 4, 3) := by decide +kernel
theorem dX7_word_117 : decode cX7_word 117 = .ok (.iload_n 1, 1) := by decide +kernel
theorem dX7_word_118 : decode cX7_word 118 = .ok (.istore_n 1, 1) := by decide +kernel
theorem dX7_word_119 : decode cX7_word 119 = .ok (.iinc 2 1, 3) := by decide +kernel
theorem dX7_word_122 : decode cX7_word 122 = .ok (.goto (-118), 3) := by decide +kernel
theorem dX7_word_125 : decode cX7_word 125 = .ok (.iload_n 1, 1) := by decide +kernel
theorem dX7_word_126 : decode cX7_word 126 = .ok (.ireturn, 1) := by decide +kernel
theorem dX7_isSign_0 : decode cX7_isSign 0 = .ok (.aload_n 0, 1) := by decide +kernel
theorem dX7_isSign_1 : decode cX7_isSign 1 = .ok (.getfield 131, 3) := by decide +kernel
theorem dX7_isSign_4 : decode cX7_isSign 4 = .ok (.iconst 3, 1) := by decide +kernel
theorem dX7_isSign_5 : decode cX7_isSign 5 = .ok (.if_icmp .ne 20, 3) := by decide +kernel
theorem dX7_isSign_8 : decode cX7_isSign 8 = .ok (.aload_n 0, 1) := by decide +kernel
theorem dX7_isSign_9 : decode cX7_isSign 9 = .ok (.getfield 16, 3) := by decide +kernel
theorem dX7_isSign_12 : decode cX7_isSign 12 = .ok (.aload_n 0, 1) := by decide +kernel
theorem dX7_isSign_13 : decode cX7_isSign 13 = .ok (.getfield 125, 3) := by decide +kernel
theorem dX7_isSign_16 : decode cX7_isSign 16 = .ok (.iaload, 1) := by decide +kernel
theorem dX7_isSign_17 : decode cX7_isSign 17 = .ok (.iload_n 1, 1) := by decide +kernel
theorem dX7_isSign_18 : decode cX7_isSign 18 = .ok (.if_icmp .ne 7, 3) := by decide +kernel
theorem dX7_isSign_21 : decode cX7_isSign 21 = .ok (.iconst 1, 1) := by decide +kernel
theorem dX7_isSign_22 : decode cX7_isSign 22 = .ok (.goto 4, 3) := by decide +kernel
theorem dX7_isSign_25 : decode cX7_isSign 25 = .ok (.iconst 0, 1) := by decide +kernel
theorem dX7_isSign_26 : decode cX7_isSign 26 = .ok (.ireturn, 1) := by decide +kernel
theorem dX7_write_0 : decode cX7_write 0 = .ok (.aload_n 0, 1) := by decide +kernel
theorem dX7_write_1 : decode cX7_write 1 = .ok (.getfield 19, 3) := by decide +kernel
theorem dX7_write_4 : decode cX7_write 4 = .ok (.sipush 160, 3) := by decide +kernel
theorem dX7_write_7 : decode cX7_write 7 = .ok (.aload_n 0, 1) := by decide +kernel
theorem dX7_write_8 : decode cX7_write 8 = .ok (.getfield 29, 3) := by decide +kernel
theorem dX7_write_11 : decode cX7_write 11 = .ok (.imul, 1) := by decide +kernel
theorem dX7_write_12 : decode cX7_write 12 = .ok (.aload_n 0, 1) := by decide +kernel
theorem dX7_write_13 : decode cX7_write 13 = .ok (.getfield 134, 3) := by decide +kernel
theorem dX7_write_16 : decode cX7_write 16 = .ok (.iadd, 1) := by decide +kernel
theorem dX7_write_17 : decode cX7_write 17 = .ok (.iload_n 1, 1) := by decide +kernel
theorem dX7_write_18 : decode cX7_write 18 = .ok (.iastore, 1) := by decide +kernel
theorem dX7_write_19 : decode cX7_write 19 = .ok (.aload_n 0, 1) := by decide +kernel
theorem dX7_write_20 : decode cX7_write 20 = .ok (.dup, 1) := by decide +kernel
theorem dX7_write_21 : decode cX7_write 21 = .ok (.getfield 134, 3) := by decide +kernel
theorem dX7_write_24 : decode cX7_write 24 = .ok (.iconst 1, 1) := by decide +kernel
theorem dX7_write_25 : decode cX7_write 25 = .ok (.iadd, 1) := by decide +kernel
theorem dX7_write_26 : decode cX7_write 26 = .ok (.putfield 134, 3) := by decide +kernel
theorem dX7_write_29 : decode cX7_write 29 = .ok (.return_, 1) := by decide +kernel
theorem dX7_rank_0 : decode cX7_rank 0 = .ok (.iload_n 0, 1) := by decide +kernel
theorem dX7_rank_1 : decode cX7_rank 1 = .ok (.ifCond .ne 7, 3) := by decide +kernel
theorem dX7_rank_4 : decode cX7_rank 4 = .ok (.iconst 0, 1) := by decide +kernel
theorem dX7_rank_5 : decode cX7_rank 5 = .ok (.goto 72, 3) := by decide +kernel
theorem dX7_rank_8 : decode cX7_rank 8 = .ok (.iload_n 0, 1) := by decide +kernel
theorem dX7_rank_9 : decode cX7_rank 9 = .ok (.bipush (-20), 2) := by decide +kernel
theorem dX7_rank_11 : decode cX7_rank 11 = .ok (.if_icmp .ne 7, 3) := by decide +kernel
theorem dX7_rank_14 : decode cX7_rank 14 = .ok (.iconst 1, 1) := by decide +kernel
theorem dX7_rank_15 : decode cX7_rank 15 = .ok (.goto 62, 3) := by decide +kernel
theorem dX7_rank_18 : decode cX7_rank 18 = .ok (.iload_n 0, 1) := by decide +kernel
theorem dX7_rank_19 : decode cX7_rank 19 = .ok (.bipush (-21), 2) := by decide +kernel
theorem dX7_rank_21 : decode cX7_rank 21 = .ok (.if_icmp .ne 7, 3) := by decide +kernel
theorem dX7_rank_24 : decode cX7_rank 24 = .ok (.iconst 2, 1) := by decide +kernel
theorem dX7_rank_25 : decode cX7_rank 25 = .ok (.goto 52, 3) := by decide +kernel
theorem dX7_rank_28 : decode cX7_rank 28 = .ok (.iload_n 0, 1) := by decide +kernel
theorem dX7_rank_29 : decode cX7_rank 29 = .ok (.bipush (-22), 2) := by decide +kernel
theorem dX7_rank_31 : decode cX7_rank 31 = .ok (.if_icmp .ne 7, 3) := by decide +kernel
theorem dX7_rank_34 : decode cX7_rank 34 = .ok (.iconst 3, 1) := by decide +kernel
theorem dX7_rank_35 : decode cX7_rank 35 = .ok (.goto 42, 3) := by decide +kernel
theorem dX7_rank_38 : decode cX7_rank 38 = .ok (.iload_n 0, 1) := by decide +kernel
theorem dX7_rank_39 : decode cX7_rank 39 = .ok (.bipush (-23), 2) := by decide +kernel
theorem dX7_rank_41 : decode cX7_rank 41 = .ok (.if_icmp .eq 9, 3) := by decide +kernel
theorem dX7_rank_44 : decode cX7_rank 44 = .ok (.iload_n 0, 1) := by decide +kernel
theorem dX7_rank_45 : decode cX7_rank 45 = .ok (.bipush (-24), 2) := by decide +kernel
theorem dX7_rank_47 : decode cX7_rank 47 = .ok (.if_icmp .ne 7, 3) := by decide +kernel
theorem dX7_rank_50 : decode cX7_rank 50 = .ok (.iconst 4, 1) := by decide +kernel
theorem dX7_rank_51 : decode cX7_rank 51 = .ok (.goto 26, 3) := by decide +kernel
theorem dX7_rank_54 : decode cX7_rank 54 = .ok (.iload_n 0, 1) := by decide +kernel
theorem dX7_rank_55 : decode cX7_rank 55 = .ok (.bipush (-27), 2) := by decide +kernel
theorem dX7_rank_57 : decode cX7_rank 57 = .ok (.if_icmp .ne 8, 3) := by decide +kernel
theorem dX7_rank_60 : decode cX7_rank 60 = .ok (.bipush 6, 2) := by decide +kernel
theorem dX7_rank_62 : decode cX7_rank 62 = .ok (.goto 15, 3) := by decide +kernel
theorem dX7_rank_65 : decode cX7_rank 65 = .ok (.iload_n 0, 1) := by decide +kernel
theorem dX7_rank_66 : decode cX7_rank 66 = .ok (.bipush (-28), 2) := by decide +kernel
theorem dX7_rank_68 : decode cX7_rank 68 = .ok (.if_icmp .ne 8, 3) := by decide +kernel
theorem dX7_rank_71 : decode cX7_rank 71 = .ok (.bipush 7, 2) := by decide +kernel
theorem dX7_rank_73 : decode cX7_rank 73 = .ok (.goto 4, 3) := by decide +kernel
theorem dX7_rank_76 : decode cX7_rank 76 = .ok (.iconst 5, 1) := by decide +kernel
theorem dX7_rank_77 : decode cX7_rank 77 = .ok (.ireturn, 1) := by decide +kernel
theorem dX7_await_0 : decode cX7_await 0 = .ok (.aload_n 0, 1) := by decide +kernel
theorem dX7_await_1 : decode cX7_await 1 = .ok (.getfield 37, 3) := by decide +kernel
theorem dX7_await_4 : decode cX7_await 4 = .ok (.aload_n 0, 1) := by decide +kernel
theorem dX7_await_5 : decode cX7_await 5 = .ok (.getfield 137, 3) := by decide +kernel
theorem dX7_await_8 : decode cX7_await 8 = .ok (.iload_n 1, 1) := by decide +kernel
theorem dX7_await_9 : decode cX7_await 9 = .ok (.iastore, 1) := by decide +kernel
theorem dX7_await_10 : decode cX7_await 10 = .ok (.aload_n 0, 1) := by decide +kernel
theorem dX7_await_11 : decode cX7_await 11 = .ok (.dup, 1) := by decide +kernel
theorem dX7_await_12 : decode cX7_await 12 = .ok (.getfield 137, 3) := by decide +kernel
theorem dX7_await_15 : decode cX7_await 15 = .ok (.iconst 1, 1) := by decide +kernel
theorem dX7_await_16 : decode cX7_await 16 = .ok (.iadd, 1) := by decide +kernel
theorem dX7_await_17 : decode cX7_await 17 = .ok (.putfield 137, 3) := by decide +kernel
theorem dX7_await_20 : decode cX7_await 20 = .ok (.return_, 1) := by decide +kernel
theorem dX7_last_0 : decode cX7_last 0 = .ok (.aload_n 0, 1) := by decide +kernel
theorem dX7_last_1 : decode cX7_last 1 = .ok (.getfield 137, 3) := by decide +kernel
theorem dX7_last_4 : decode cX7_last 4 = .ok (.ifCond .ne 7, 3) := by decide +kernel
theorem dX7_last_7 : decode cX7_last 7 = .ok (.iconst 0, 1) := by decide +kernel
theorem dX7_last_8 : decode cX7_last 8 = .ok (.goto 17, 3) := by decide +kernel
theorem dX7_last_11 : decode cX7_last 11 = .ok (.aload_n 0, 1) := by decide +kernel
theorem dX7_last_12 : decode cX7_last 12 = .ok (.getfield 37, 3) := by decide +kernel
theorem dX7_last_15 : decode cX7_last 15 = .ok (.aload_n 0, 1) := by decide +kernel
theorem dX7_last_16 : decode cX7_last 16 = .ok (.getfield 137, 3) := by decide +kernel
theorem dX7_last_19 : decode cX7_last 19 = .ok (.iconst 1, 1) := by decide +kernel
theorem dX7_last_20 : decode cX7_last 20 = .ok (.isub, 1) := by decide +kernel
theorem dX7_last_21 : decode cX7_last 21 = .ok (.iaload, 1) := by decide +kernel
theorem dX7_last_22 : decode cX7_last 22 = .ok (.invokestatic 140, 3) := by decide +kernel
theorem dX7_last_25 : decode cX7_last 25 = .ok (.ireturn, 1) := by decide +kernel
theorem dX7_settle_0 : decode cX7_settle 0 = .ok (.aload_n 0, 1) := by decide +kernel
theorem dX7_settle_1 : decode cX7_settle 1 = .ok (.invokevirtual 143, 3) := by decide +kernel
theorem dX7_settle_4 : decode cX7_settle 4 = .ok (.ifCond .le 79, 3) := by decide +kernel
theorem dX7_settle_7 : decode cX7_settle 7 = .ok (.aload_n 0, 1) := by decide +kernel
theorem dX7_settle_8 : decode cX7_settle 8 = .ok (.invokevirtual 143, 3) := by decide +kernel
theorem dX7_settle_11 : decode cX7_settle 11 = .ok (.iload_n 1, 1) := by decide +kernel
theorem dX7_settle_12 : decode cX7_settle 12 = .ok (.if_icmp .lt 71, 3) := by decide +kernel
theorem dX7_settle_15 : decode cX7_settle 15 = .ok (.aload_n 0, 1) := by decide +kernel
theorem dX7_settle_16 : decode cX7_settle 16 = .ok (.dup, 1) := by decide +kernel
theorem dX7_settle_17 : decode cX7_settle 17 = .ok (.getfield 137, 3) := by decide +kernel
theorem dX7_settle_20 : decode cX7_settle 20 = .ok (.iconst 1, 1) := by decide +kernel
theorem dX7_settle_21 : decode cX7_settle 21 = .ok (.isub, 1) := by decide +kernel
theorem dX7_settle_22 : decode cX7_settle 22 = .ok (.putfield 137, 3) := by decide +kernel
theorem dX7_settle_25 : decode cX7_settle 25 = .ok (.aload_n 0, 1) := by decide +kernel
theorem dX7_settle_26 : decode cX7_settle 26 = .ok (.aload_n 0, 1) := by decide +kernel
theorem dX7_settle_27 : decode cX7_settle 27 = .ok (.getfield 37, 3) := by decide +kernel
theorem dX7_settle_30 : decode cX7_settle 30 = .ok (.aload_n 0, 1) := by decide +kernel
theorem dX7_settle_31 : decode cX7_settle 31 = .ok (.getfield 137, 3) := by decide +kernel
theorem dX7_settle_34 : decode cX7_settle 34 = .ok (.iaload, 1) := by decide +kernel
theorem dX7_settle_35 : decode cX7_settle 35 = .ok (.invokevirtual 146, 3) := by decide +kernel
theorem dX7_settle_38 : decode cX7_settle 38 = .ok (.aload_n 0, 1) := by decide +kernel
theorem dX7_settle_39 : decode cX7_settle 39 = .ok (.dup, 1) := by decide +kernel
theorem dX7_settle_40 : decode cX7_settle 40 = .ok (.getfield 149, 3) := by decide +kernel
theorem dX7_settle_43 : decode cX7_settle 43 = .ok (.aload_n 0, 1) := by decide +kernel
theorem dX7_settle_44 : decode cX7_settle 44 = .ok (.getfield 37, 3) := by decide +kernel
theorem dX7_settle_47 : decode cX7_settle 47 = .ok (.aload_n 0, 1) := by decide +kernel
theorem dX7_settle_48 : decode cX7_settle 48 = .ok (.getfield 137, 3) := by decide +kernel
theorem dX7_settle_51 : decode cX7_settle 51 = .ok (.iaload, 1) := by decide +kernel
theorem dX7_settle_52 : decode cX7_settle 52 = .ok (.bipush (-22), 2) := by decide +kernel
theorem dX7_settle_54 : decode cX7_settle 54 = .ok (.if_icmp .eq 17, 3) := by decide +kernel
theorem dX7_settle_57 : decode cX7_settle 57 = .ok (.aload_n 0, 1) := by decide +kernel
theorem dX7_settle_58 : decode cX7_settle 58 = .ok (.getfield 37, 3) := by decide +kernel
theorem dX7_settle_61 : decode cX7_settle 61 = .ok (.aload_n 0, 1) := by decide +kernel
theorem dX7_settle_62 : decode cX7_settle 62 = .ok (.getfield 137, 3) := by decide +kernel
theorem dX7_settle_65 : decode cX7_settle 65 = .ok (.iaload, 1) := by decide +kernel
theorem dX7_settle_66 : decode cX7_settle 66 = .ok (.bipush (-28), 2) := by decide +kernel
theorem dX7_settle_68 : decode cX7_settle 68 = .ok (.if_icmp .ne 7, 3) := by decide +kernel
theorem dX7_settle_71 : decode cX7_settle 71 = .ok (.iconst 1, 1) := by decide +kernel
theorem dX7_settle_72 : decode cX7_settle 72 = .ok (.goto 4, 3) := by decide +kernel
theorem dX7_settle_75 : decode cX7_settle 75 = .ok (.iconst 0, 1) := by decide +kernel
theorem dX7_settle_76 : decode cX7_settle 76 = .ok (.isub, 1) := by decide +kernel
theorem dX7_settle_77 : decode cX7_settle 77 = .ok (.putfield 149, 3) := by decide +kernel
theorem dX7_settle_80 : decode cX7_settle 80 = .ok (.goto (-80), 3) := by decide +kernel
theorem dX7_settle_83 : decode cX7_settle 83 = .ok (.return_, 1) := by decide +kernel
theorem dX7_between_0 : decode cX7_between 0 = .ok (.aload_n 0, 1) := by decide +kernel
theorem dX7_between_1 : decode cX7_between 1 = .ok (.invokevirtual 152, 3) := by decide +kernel
theorem dX7_between_4 : decode cX7_between 4 = .ok (.istore_n 1, 1) := by decide +kernel
theorem dX7_between_5 : decode cX7_between 5 = .ok (.iload_n 1, 1) := by decide +kernel
theorem dX7_between_6 : decode cX7_between 6 = .ok (.bipush 9, 2) := by decide +kernel
theorem dX7_between_8 : decode cX7_between 8 = .ok (.if_icmp .ne 8, 3) := by decide +kernel
theorem dX7_between_11 : decode cX7_between 11 = .ok (.bipush (-20), 2) := by decide +kernel
theorem dX7_between_13 : decode cX7_between 13 = .ok (.goto 85, 3) := by decide +kernel
theorem dX7_between_16 : decode cX7_between 16 = .ok (.iload_n 1, 1) := by decide +kernel
theorem dX7_between_17 : decode cX7_between 17 = .ok (.bipush 10, 2) := by decide +kernel
theorem dX7_between_19 : decode cX7_between 19 = .ok (.if_icmp .ne 8, 3) := by decide +kernel
theorem dX7_between_22 : decode cX7_between 22 = .ok (.bipush (-21), 2) := by decide +kernel
theorem dX7_between_24 : decode cX7_between 24 = .ok (.goto 74, 3) := by decide +kernel
theorem dX7_between_27 : decode cX7_between 27 = .ok (.aload_n 0, 1) := by decide +kernel
theorem dX7_between_28 : decode cX7_between 28 = .ok (.bipush 60, 2) := by decide +kernel
theorem dX7_between_30 : decode cX7_between 30 = .ok (.invokevirtual 155, 3) := by decide +kernel
theorem dX7_between_33 : decode cX7_between 33 = .ok (.ifCond .eq 8, 3) := by decide +kernel
theorem dX7_between_36 : decode cX7_between 36 = .ok (.bipush (-23), 2) := by decide +kernel
theorem dX7_between_38 : decode cX7_between 38 = .ok (.goto 60, 3) := by decide +kernel
theorem dX7_between_41 : decode cX7_between 41 = .ok (.aload_n 0, 1) := by decide +kernel
theorem dX7_between_42 : decode cX7_between 42 = .ok (.bipush 61, 2) := by decide +kernel
theorem dX7_between_44 : decode cX7_between 44 = .ok (.invokevirtual 155, 3) := by decide +kernel
theorem dX7_between_47 : decode cX7_between 47 = .ok (.ifCond .eq 8, 3) := by decide +kernel
theorem dX7_between_50 : decode cX7_between 50 = .ok (.bipush (-24), 2) := by decide +kernel
theorem dX7_between_52 : decode cX7_between 52 = .ok (.goto 46, 3) := by decide +kernel
theorem dX7_between_55 : decode cX7_between 55 = .ok (.aload_n 0, 1) := by decide +kernel
theorem dX7_between_56 : decode cX7_between 56 = .ok (.bipush 43, 2) := by decide +kernel
theorem dX7_between_58 : decode cX7_between 58 = .ok (.invokevirtual 155, 3) := by decide +kernel
theorem dX7_between_61 : decode cX7_between 61 = .ok (.ifCond .eq 8, 3) := by decide +kernel
theorem dX7_between_64 : decode cX7_between 64 = .ok (.bipush (-25), 2) := by decide +kernel
theorem dX7_between_66 : decode cX7_between 66 = .ok (.goto 32, 3) := by decide +kernel
theorem dX7_between_69 : decode cX7_between 69 = .ok (.aload_n 0, 1) := by decide +kernel
theorem dX7_between_70 : decode cX7_between 70 = .ok (.bipush 45, 2) := by decide +kernel
theorem dX7_between_72 : decode cX7_between 72 = .ok (.invokevirtual 155, 3) := by decide +kernel
theorem dX7_between_75 : decode cX7_between 75 = .ok (.ifCond .eq 8, 3) := by decide +kernel
theorem dX7_between_78 : decode cX7_between 78 = .ok (.bipush (-26), 2) := by decide +kernel
theorem dX7_between_80 : decode cX7_between 80 = .ok (.goto 18, 3) := by decide +kernel
theorem dX7_between_83 : decode cX7_between 83 = .ok (.aload_n 0, 1) := by decide +kernel
theorem dX7_between_84 : decode cX7_between 84 = .ok (.bipush 42, 2) := by decide +kernel
theorem dX7_between_86 : decode cX7_between 86 = .ok (.invokevirtual 155, 3) := by decide +kernel
theorem dX7_between_89 : decode cX7_between 89 = .ok (.ifCond .eq 8, 3) := by decide +kernel
theorem dX7_between_92 : decode cX7_between 92 = .ok (.bipush (-27), 2) := by decide +kernel
theorem dX7_between_94 : decode cX7_between 94 = .ok (.goto 4, 3) := by decide +kernel
theorem dX7_between_97 : decode cX7_between 97 = .ok (.iconst 0, 1) := by decide +kernel
theorem dX7_between_98 : decode cX7_between 98 = .ok (.ireturn, 1) := by decide +kernel
theorem dX7_numberThere_0 : decode cX7_numberThere 0 = .ok (.iconst 0, 1) := by decide +kernel
theorem dX7_numberThere_1 : decode cX7_numberThere 1 = .ok (.istore_n 1, 1) := by decide +kernel
theorem dX7_numberThere_2 : decode cX7_numberThere 2 = .ok (.aload_n 0, 1) := by decide +kernel
theorem dX7_numberThere_3 : decode cX7_numberThere 3 = .ok (.getfield 125, 3) := by decide +kernel
theorem dX7_numberThere_6 : decode cX7_numberThere 6 = .ok (.istore_n 2, 1) := by decide +kernel
theorem dX7_numberThere_7 : decode cX7_numberThere 7 = .ok (.iload_n 2, 1) := by decide +kernel
theorem dX7_numberThere_8 : decode cX7_numberThere 8 = .ok (.aload_n 0, 1) := by decide +kernel
theorem dX7_numberThere_9 : decode cX7_numberThere 9 = .ok (.getfield 122, 3) := by decide +kernel
theorem dX7_numberThere_12 : decode cX7_numberThere 12 = .ok (.if_icmp .ge 24, 3) := by decide +kernel
theorem dX7_numberThere_15 : decode cX7_numberThere 15 = .ok (.bipush 10, 2) := by decide +kernel
theorem dX7_numberThere_17 : decode cX7_numberThere 17 = .ok (.iload_n 1, 1) := by decide +kernel
theorem dX7_numberThere_18 : decode cX7_numberThere 18 = .ok (.imul, 1) := by decide +kernel
theorem dX7_numberThere_19 : decode cX7_numberThere 19 = .ok (.aload_n 0, 1) := by decide +kernel
theorem dX7_numberThere_20 : decode cX7_numberThere 20 = .ok (.getfield 16, 3) := by decide +kernel
theorem dX7_numberThere_23 : decode cX7_numberThere 23 = .ok (.iload_n 2, 1) := by decide +kernel
theorem dX7_numberThere_24 : decode cX7_numberThere 24 = .ok (.iaload, 1) := by decide +kernel
theorem dX7_numberThere_25 : decode cX7_numberThere 25 = .ok (.iadd, 1) := by decide +kernel
theorem dX7_numberThere_26 : decode cX7_numberThere 26 = .ok (.bipush 48, 2) := by decide +kernel
theorem dX7_numberThere_28 : decode cX7_numberThere 28 = .ok (.isub, 1) := by decide +kernel
theorem dX7_numberThere_29 : decode cX7_numberThere 29 = .ok (.istore_n 1, 1) := by decide +kernel
theorem dX7_numberThere_30 : decode cX7_numberThere 30 = .ok (.iinc 2 1, 3) := by decide +kernel
theorem dX7_numberThere_33 : decode cX7_numberThere 33 = .ok (.goto (-26), 3) := by decide +kernel
theorem dX7_numberThere_36 : decode cX7_numberThere 36 = .ok (.iload_n 1, 1) := by decide +kernel
theorem dX7_numberThere_37 : decode cX7_numberThere 37 = .ok (.ireturn, 1) := by decide +kernel
theorem dX7_begin_0 : decode cX7_begin 0 = .ok (.aload_n 0, 1) := by decide +kernel
theorem dX7_begin_1 : decode cX7_begin 1 = .ok (.invokevirtual 152, 3) := by decide +kernel
theorem dX7_begin_4 : decode cX7_begin 4 = .ok (.istore_n 1, 1) := by decide +kernel
theorem dX7_begin_5 : decode cX7_begin 5 = .ok (.iload_n 1, 1) := by decide +kernel
theorem dX7_begin_6 : decode cX7_begin 6 = .ok (.iconst 0, 1) := by decide +kernel
theorem dX7_begin_7 : decode cX7_begin 7 = .ok (.iconst 5, 1) := by decide +kernel
theorem dX7_begin_8 : decode cX7_begin 8 = .ok (.invokestatic 78, 3) := by decide +kernel
theorem dX7_begin_11 : decode cX7_begin 11 = .ok (.ifCond .eq 13, 3) := by decide +kernel
theorem dX7_begin_14 : decode cX7_begin 14 = .ok (.aload_n 0, 1) := by decide +kernel
theorem dX7_begin_15 : decode cX7_begin 15 = .ok (.bipush (-10), 2) := by decide +kernel
theorem dX7_begin_17 : decode cX7_begin 17 = .ok (.iload_n 1, 1) := by decide +kernel
theorem dX7_begin_18 : decode cX7_begin 18 = .ok (.isub, 1) := by decide +kernel
theorem dX7_begin_19 : decode cX7_begin 19 = .ok (.invokevirtual 146, 3) := by decide +kernel
theorem dX7_begin_22 : decode cX7_begin 22 = .ok (.iconst 1, 1) := by decide +kernel
theorem dX7_begin_23 : decode cX7_begin 23 = .ok (.ireturn, 1) := by decide +kernel
theorem dX7_begin_24 : decode cX7_begin 24 = .ok (.aload_n 0, 1) := by decide +kernel
theorem dX7_begin_25 : decode cX7_begin 25 = .ok (.getfield 131, 3) := by decide +kernel
theorem dX7_begin_28 : decode cX7_begin 28 = .ok (.iconst 2, 1) := by decide +kernel
theorem dX7_begin_29 : decode cX7_begin 29 = .ok (.if_icmp .ne 26, 3) := by decide +kernel
theorem dX7_begin_32 : decode cX7_begin 32 = .ok (.aload_n 0, 1) := by decide +kernel
theorem dX7_begin_33 : decode cX7_begin 33 = .ok (.getfield 122, 3) := by decide +kernel
theorem dX7_begin_36 : decode cX7_begin 36 = .ok (.aload_n 0, 1) := by decide +kernel
theorem dX7_begin_37 : decode cX7_begin 37 = .ok (.getfield 125, 3) := by decide +kernel
theorem dX7_begin_40 : decode cX7_begin 40 = .ok (.isub, 1) := by decide +kernel
theorem dX7_begin_41 : decode cX7_begin 41 = .ok (.iconst 4, 1) := by decide +kernel
theorem dX7_begin_42 : decode cX7_begin 42 = .ok (.if_icmp .gt 13, 3) := by decide +kernel
theorem dX7_begin_45 : decode cX7_begin 45 = .ok (.aload_n 0, 1) := by decide +kernel
theorem dX7_begin_46 : decode cX7_begin 46 = .ok (.aload_n 0, 1) := by decide +kernel
theorem dX7_begin_47 : decode cX7_begin 47 = .ok (.invokevirtual 158, 3) := by decide +kernel
theorem dX7_begin_50 : decode cX7_begin 50 = .ok (.invokevirtual 146, 3) := by decide +kernel
theorem dX7_begin_53 : decode cX7_begin 53 = .ok (.iconst 1, 1) := by decide +kernel
theorem dX7_begin_54 : decode cX7_begin 54 = .ok (.ireturn, 1) := by decide +kernel
theorem dX7_begin_55 : decode cX7_begin 55 = .ok (.aload_n 0, 1) := by decide +kernel
theorem dX7_begin_56 : decode cX7_begin 56 = .ok (.bipush 40, 2) := by decide +kernel
theorem dX7_begin_58 : decode cX7_begin 58 = .ok (.invokevirtual 155, 3) := by decide +kernel
theorem dX7_begin_61 : decode cX7_begin 61 = .ok (.ifCond .eq 7, 3) := by decide +kernel
theorem dX7_begin_64 : decode cX7_begin 64 = .ok (.iconst 0, 1) := by decide +kernel
theorem dX7_begin_65 : decode cX7_begin 65 = .ok (.goto 38, 3) := by decide +kernel
theorem dX7_begin_68 : decode cX7_begin 68 = .ok (.aload_n 0, 1) := by decide +kernel
theorem dX7_begin_69 : decode cX7_begin 69 = .ok (.bipush 45, 2) := by decide +kernel
theorem dX7_begin_71 : decode cX7_begin 71 = .ok (.invokevirtual 155, 3) := by decide +kernel
theorem dX7_begin_74 : decode cX7_begin 74 = .ok (.ifCond .eq 8, 3) := by decide +kernel
theorem dX7_begin_77 : decode cX7_begin 77 = .ok (.bipush (-28), 2) := by decide +kernel
theorem dX7_begin_79 : decode cX7_begin 79 = .ok (.goto 24, 3) := by decide +kernel
theorem dX7_begin_82 : decode cX7_begin 82 = .ok (.iload_n 1, 1) := by decide +kernel
theorem dX7_begin_83 : decode cX7_begin 83 = .ok (.bipush 11, 2) := by decide +kernel
theorem dX7_begin_85 : decode cX7_begin 85 = .ok (.if_icmp .ne 16, 3) := by decide +kernel
theorem dX7_begin_88 : decode cX7_begin 88 = .ok (.aload_n 0, 1) := by decide +kernel
theorem dX7_begin_89 : decode cX7_begin 89 = .ok (.invokevirtual 143, 3) := by decide +kernel
theorem dX7_begin_92 : decode cX7_begin 92 = .ok (.iconst 3, 1) := by decide +kernel
theorem dX7_begin_93 : decode cX7_begin 93 = .ok (.if_icmp .gt 8, 3) := by decide +kernel
theorem dX7_begin_96 : decode cX7_begin 96 = .ok (.bipush (-22), 2) := by decide +kernel
theorem dX7_begin_98 : decode cX7_begin 98 = .ok (.goto 5, 3) := by decide +kernel
theorem dX7_begin_101 : decode cX7_begin 101 = .ok (.bipush (-25), 2) := by decide +kernel
theorem dX7_begin_103 : decode cX7_begin 103 = .ok (.istore_n 2, 1) := by decide +kernel
theorem dX7_begin_104 : decode cX7_begin 104 = .ok (.iload_n 2, 1) := by decide +kernel
theorem dX7_begin_105 : decode cX7_begin 105 = .ok (.bipush (-25), 2) := by decide +kernel
theorem dX7_begin_107 : decode cX7_begin 107 = .ok (.if_icmp .eq 11, 3) := by decide +kernel
theorem dX7_begin_110 : decode cX7_begin 110 = .ok (.aload_n 0, 1) := by decide +kernel
theorem dX7_begin_111 : decode cX7_begin 111 = .ok (.getfield 149, 3) := by decide +kernel
theorem dX7_begin_114 : decode cX7_begin 114 = .ok (.iconst 5, 1) := by decide +kernel
theorem dX7_begin_115 : decode cX7_begin 115 = .ok (.if_icmp .ne 5, 3) := by decide +kernel
theorem dX7_begin_118 : decode cX7_begin 118 = .ok (.iconst 0, 1) := by decide +kernel
theorem dX7_begin_119 : decode cX7_begin 119 = .ok (.ireturn, 1) := by decide +kernel
theorem dX7_begin_120 : decode cX7_begin 120 = .ok (.aload_n 0, 1) := by decide +kernel
theorem dX7_begin_121 : decode cX7_begin 121 = .ok (.dup, 1) := by decide +kernel
theorem dX7_begin_122 : decode cX7_begin 122 = .ok (.getfield 149, 3) := by decide +kernel
theorem dX7_begin_125 : decode cX7_begin 125 = .ok (.iconst 1, 1) := by decide +kernel
theorem dX7_begin_126 : decode cX7_begin 126 = .ok (.iadd, 1) := by decide +kernel
theorem dX7_begin_127 : decode cX7_begin 127 = .ok (.putfield 149, 3) := by decide +kernel
theorem dX7_begin_130 : decode cX7_begin 130 = .ok (.aload_n 0, 1) := by decide +kernel
theorem dX7_begin_131 : decode cX7_begin 131 = .ok (.iload_n 2, 1) := by decide +kernel
theorem dX7_begin_132 : decode cX7_begin 132 = .ok (.invokevirtual 161, 3) := by decide +kernel
theorem dX7_begin_135 : decode cX7_begin 135 = .ok (.iconst 2, 1) := by decide +kernel
theorem dX7_begin_136 : decode cX7_begin 136 = .ok (.ireturn, 1) := by decide +kernel
theorem dX7_isE_0 : decode cX7_isE 0 = .ok (.aload_n 0, 1) := by decide +kernel
theorem dX7_isE_1 : decode cX7_isE 1 = .ok (.iconst 0, 1) := by decide +kernel
theorem dX7_isE_2 : decode cX7_isE 2 = .ok (.putfield 137, 3) := by decide +kernel
theorem dX7_isE_5 : decode cX7_isE 5 = .ok (.aload_n 0, 1) := by decide +kernel
theorem dX7_isE_6 : decode cX7_isE 6 = .ok (.invokevirtual 164, 3) := by decide +kernel
theorem dX7_isE_9 : decode cX7_isE 9 = .ok (.istore_n 1, 1) := by decide +kernel
theorem dX7_isE_10 : decode cX7_isE 10 = .ok (.iload_n 1, 1) := by decide +kernel
theorem dX7_isE_11 : decode cX7_isE 11 = .ok (.iconst 2, 1) := by decide +kernel
theorem dX7_isE_12 : decode cX7_isE 12 = .ok (.if_icmp .ne 15, 3) := by decide +kernel
theorem dX7_isE_15 : decode cX7_isE 15 = .ok (.aload_n 0, 1) := by decide +kernel
theorem dX7_isE_16 : decode cX7_isE 16 = .ok (.invokevirtual 167, 3) := by decide +kernel
theorem dX7_isE_19 : decode cX7_isE 19 = .ok (.aload_n 0, 1) := by decide +kernel
theorem dX7_isE_20 : decode cX7_isE 20 = .ok (.invokevirtual 164, 3) := by decide +kernel
theorem dX7_isE_23 : decode cX7_isE 23 = .ok (.istore_n 1, 1) := by decide +kernel
theorem dX7_isE_24 : decode cX7_isE 24 = .ok (.goto (-14), 3) := by decide +kernel
theorem dX7_isE_27 : decode cX7_isE 27 = .ok (.iload_n 1, 1) := by decide +kernel
theorem dX7_isE_28 : decode cX7_isE 28 = .ok (.ifCond .ne 5, 3) := by decide +kernel
theorem dX7_isE_31 : decode cX7_isE 31 = .ok (.iconst 0, 1) := by decide +kernel
theorem dX7_isE_32 : decode cX7_isE 32 = .ok (.ireturn, 1) := by decide +kernel
theorem dX7_isE_33 : decode cX7_isE 33 = .ok (.aload_n 0, 1) := by decide +kernel
theorem dX7_isE_34 : decode cX7_isE 34 = .ok (.bipush 7, 2) := by decide +kernel
theorem dX7_isE_36 : decode cX7_isE 36 = .ok (.invokevirtual 170, 3) := by decide +kernel
theorem dX7_isE_39 : decode cX7_isE 39 = .ok (.aload_n 0, 1) := by decide +kernel
theorem dX7_isE_40 : decode cX7_isE 40 = .ok (.invokevirtual 167, 3) := by decide +kernel
theorem dX7_isE_43 : decode cX7_isE 43 = .ok (.aload_n 0, 1) := by decide +kernel
theorem dX7_isE_44 : decode cX7_isE 44 = .ok (.bipush 41, 2) := by decide +kernel
theorem dX7_isE_46 : decode cX7_isE 46 = .ok (.invokevirtual 155, 3) := by decide +kernel
theorem dX7_isE_49 : decode cX7_isE 49 = .ok (.ifCond .eq 50, 3) := by decide +kernel
theorem dX7_isE_52 : decode cX7_isE 52 = .ok (.aload_n 0, 1) := by decide +kernel
theorem dX7_isE_53 : decode cX7_isE 53 = .ok (.iconst 1, 1) := by decide +kernel
theorem dX7_isE_54 : decode cX7_isE 54 = .ok (.invokevirtual 170, 3) := by decide +kernel
theorem dX7_isE_57 : decode cX7_isE 57 = .ok (.aload_n 0, 1) := by decide +kernel
theorem dX7_isE_58 : decode cX7_isE 58 = .ok (.getfield 137, 3) := by decide +kernel
theorem dX7_isE_61 : decode cX7_isE 61 = .ok (.ifCond .ne 5, 3) := by decide +kernel
theorem dX7_isE_64 : decode cX7_isE 64 = .ok (.iconst 0, 1) := by decide +kernel
theorem dX7_isE_65 : decode cX7_isE 65 = .ok (.ireturn, 1) := by decide +kernel
theorem dX7_isE_66 : decode cX7_isE 66 = .ok (.aload_n 0, 1) := by decide +kernel
theorem dX7_isE_67 : decode cX7_isE 67 = .ok (.dup, 1) := by decide +kernel
theorem dX7_isE_68 : decode cX7_isE 68 = .ok (.getfield 137, 3) := by decide +kernel
theorem dX7_isE_71 : decode cX7_isE 71 = .ok (.iconst 1, 1) := by decide +kernel
theorem dX7_isE_72 : decode cX7_isE 72 = .ok (.isub, 1) := by decide +kernel
theorem dX7_isE_73 : decode cX7_isE 73 = .ok (.putfield 137, 3) := by decide +kernel
theorem dX7_isE_76 : decode cX7_isE 76 = .ok (.aload_n 0, 1) := by decide +kernel
theorem dX7_isE_77 : decode cX7_isE 77 = .ok (.dup, 1) := by decide +kernel
theorem dX7_isE_78 : decode cX7_isE 78 = .ok (.getfield 149, 3) := by decide +kernel
theorem dX7_isE_81 : decode cX7_isE 81 = .ok (.iconst 1, 1) := by decide +kernel
theorem dX7_isE_82 : decode cX7_isE 82 = .ok (.isub, 1) := by decide +kernel
theorem dX7_isE_83 : decode cX7_isE 83 = .ok (.putfield 149, 3) := by decide +kernel
theorem dX7_isE_86 : decode cX7_isE 86 = .ok (.aload_n 0, 1) := by decide +kernel
theorem dX7_isE_87 : decode cX7_isE 87 = .ok (.bipush 7, 2) := by decide +kernel
theorem dX7_isE_89 : decode cX7_isE 89 = .ok (.invokevirtual 170, 3) := by decide +kernel
theorem dX7_isE_92 : decode cX7_isE 92 = .ok (.aload_n 0, 1) := by decide +kernel
theorem dX7_isE_93 : decode cX7_isE 93 = .ok (.invokevirtual 167, 3) := by decide +kernel
theorem dX7_isE_96 : decode cX7_isE 96 = .ok (.goto (-53), 3) := by decide +kernel
theorem dX7_isE_99 : decode cX7_isE 99 = .ok (.aload_n 0, 1) := by decide +kernel
theorem dX7_isE_100 : decode cX7_isE 100 = .ok (.invokevirtual 173, 3) := by decide +kernel
theorem dX7_isE_103 : decode cX7_isE 103 = .ok (.istore_n 2, 1) := by decide +kernel
theorem dX7_isE_104 : decode cX7_isE 104 = .ok (.iload_n 2, 1) := by decide +kernel
theorem dX7_isE_105 : decode cX7_isE 105 = .ok (.ifCond .ne 21, 3) := by decide +kernel
theorem dX7_isE_108 : decode cX7_isE 108 = .ok (.aload_n 0, 1) := by decide +kernel
theorem dX7_isE_109 : decode cX7_isE 109 = .ok (.iconst 1, 1) := by decide +kernel
theorem dX7_isE_110 : decode cX7_isE 110 = .ok (.invokevirtual 170, 3) := by decide +kernel
theorem dX7_isE_113 : decode cX7_isE 113 = .ok (.aload_n 0, 1) := by decide +kernel
theorem dX7_isE_114 : decode cX7_isE 114 = .ok (.getfield 137, 3) := by decide +kernel
theorem dX7_isE_117 : decode cX7_isE 117 = .ok (.ifCond .ne 7, 3) := by decide +kernel
theorem dX7_isE_120 : decode cX7_isE 120 = .ok (.iconst 1, 1) := by decide +kernel
theorem dX7_isE_121 : decode cX7_isE 121 = .ok (.goto 4, 3) := by decide +kernel
theorem dX7_isE_124 : decode cX7_isE 124 = .ok (.iconst 0, 1) := by decide +kernel
theorem dX7_isE_125 : decode cX7_isE 125 = .ok (.ireturn, 1) := by decide +kernel
theorem dX7_isE_126 : decode cX7_isE 126 = .ok (.aload_n 0, 1) := by decide +kernel
theorem dX7_isE_127 : decode cX7_isE 127 = .ok (.iload_n 2, 1) := by decide +kernel
theorem dX7_isE_128 : decode cX7_isE 128 = .ok (.invokestatic 140, 3) := by decide +kernel
theorem dX7_isE_131 : decode cX7_isE 131 = .ok (.iconst 4, 1) := by decide +kernel
theorem dX7_isE_132 : decode cX7_isE 132 = .ok (.if_icmp .ne 7, 3) := by decide +kernel
theorem dX7_isE_135 : decode cX7_isE 135 = .ok (.iconst 5, 1) := by decide +kernel
theorem dX7_isE_136 : decode cX7_isE 136 = .ok (.goto 7, 3) := by decide +kernel
theorem dX7_isE_139 : decode cX7_isE 139 = .ok (.iload_n 2, 1) := by decide +kernel
theorem dX7_isE_140 : decode cX7_isE 140 = .ok (.invokestatic 140, 3) := by decide +kernel
theorem dX7_isE_143 : decode cX7_isE 143 = .ok (.invokevirtual 170, 3) := by decide +kernel
theorem dX7_isE_146 : decode cX7_isE 146 = .ok (.iload_n 2, 1) := by decide +kernel
theorem dX7_isE_147 : decode cX7_isE 147 = .ok (.invokestatic 140, 3) := by decide +kernel
theorem dX7_isE_150 : decode cX7_isE 150 = .ok (.iconst 4, 1) := by decide +kernel
theorem dX7_isE_151 : decode cX7_isE 151 = .ok (.if_icmp .ne 13, 3) := by decide +kernel
theorem dX7_isE_154 : decode cX7_isE 154 = .ok (.aload_n 0, 1) := by decide +kernel
theorem dX7_isE_155 : decode cX7_isE 155 = .ok (.invokevirtual 143, 3) := by decide +kernel
theorem dX7_isE_158 : decode cX7_isE 158 = .ok (.iconst 4, 1) := by decide +kernel
theorem dX7_isE_159 : decode cX7_isE 159 = .ok (.if_icmp .ne 5, 3) := by decide +kernel
theorem dX7_isE_162 : decode cX7_isE 162 = .ok (.iconst 0, 1) := by decide +kernel
theorem dX7_isE_163 : decode cX7_isE 163 = .ok (.ireturn, 1) := by decide +kernel
theorem dX7_isE_164 : decode cX7_isE 164 = .ok (.aload_n 0, 1) := by decide +kernel
theorem dX7_isE_165 : decode cX7_isE 165 = .ok (.iload_n 2, 1) := by decide +kernel
theorem dX7_isE_166 : decode cX7_isE 166 = .ok (.invokevirtual 161, 3) := by decide +kernel
theorem dX7_isE_169 : decode cX7_isE 169 = .ok (.aload_n 0, 1) := by decide +kernel
theorem dX7_isE_170 : decode cX7_isE 170 = .ok (.invokevirtual 167, 3) := by decide +kernel
theorem dX7_isE_173 : decode cX7_isE 173 = .ok (.goto (-168), 3) := by decide +kernel
theorem dX7_isText_0 : decode cX7_isText 0 = .ok (.aload_n 0, 1) := by decide +kernel
theorem dX7_isText_1 : decode cX7_isText 1 = .ok (.invokevirtual 167, 3) := by decide +kernel
theorem dX7_isText_4 : decode cX7_isText 4 = .ok (.iconst 0, 1) := by decide +kernel
theorem dX7_isText_5 : decode cX7_isText 5 = .ok (.istore_n 1, 1) := by decide +kernel
theorem dX7_isText_6 : decode cX7_isText 6 = .ok (.iload_n 1, 1) := by decide +kernel
theorem dX7_isText_7 : decode cX7_isText 7 = .ok (.iconst 3, 1) := by decide +kernel
theorem dX7_isText_8 : decode cX7_isText 8 = .ok (.if_icmp .ge 65, 3) := by decide +kernel
theorem dX7_isText_11 : decode cX7_isText 11 = .ok (.aload_n 0, 1) := by decide +kernel
theorem dX7_isText_12 : decode cX7_isText 12 = .ok (.invokevirtual 152, 3) := by decide +kernel
theorem dX7_isText_15 : decode cX7_isText 15 = .ok (.bipush 6, 2) := by decide +kernel
theorem dX7_isText_17 : decode cX7_isText 17 = .ok (.iload_n 1, 1) := by decide +kernel
theorem dX7_isText_18 : decode cX7_isText 18 = .ok (.iadd, 1) := by decide +kernel
theorem dX7_isText_19 : decode cX7_isText 19 = .ok (.if_icmp .eq 5, 3) := by decide +kernel
theorem dX7_isText_22 : decode cX7_isText 22 = .ok (.iconst 0, 1) := by decide +kernel
theorem dX7_isText_23 : decode cX7_isText 23 = .ok (.ireturn, 1) := by decide +kernel
theorem dX7_isText_24 : decode cX7_isText 24 = .ok (.aload_n 0, 1) := by decide +kernel
theorem dX7_isText_25 : decode cX7_isText 25 = .ok (.invokevirtual 167, 3) := by decide +kernel
theorem dX7_isText_28 : decode cX7_isText 28 = .ok (.aload_n 0, 1) := by decide +kernel
theorem dX7_isText_29 : decode cX7_isText 29 = .ok (.invokevirtual 176, 3) := by decide +kernel
theorem dX7_isText_32 : decode cX7_isText 32 = .ok (.ifCond .eq 12, 3) := by decide +kernel
theorem dX7_isText_35 : decode cX7_isText 35 = .ok (.aload_n 0, 1) := by decide +kernel
theorem dX7_isText_36 : decode cX7_isText 36 = .ok (.bipush 59, 2) := by decide +kernel
theorem dX7_isText_38 : decode cX7_isText 38 = .ok (.invokevirtual 155, 3) := by decide +kernel
theorem dX7_isText_41 : decode cX7_isText 41 = .ok (.ifCond .ne 5, 3) := by decide +kernel
theorem dX7_isText_44 : decode cX7_isText 44 = .ok (.iconst 0, 1) := by decide +kernel
theorem dX7_isText_45 : decode cX7_isText 45 = .ok (.ireturn, 1) := by decide +kernel
theorem dX7_isText_46 : decode cX7_isText 46 = .ok (.aload_n 0, 1) := by decide +kernel
theorem dX7_isText_47 : decode cX7_isText 47 = .ok (.getfield 22, 3) := by decide +kernel
theorem dX7_isText_50 : decode cX7_isText 50 = .ok (.iconst 3, 1) := by decide +kernel
theorem dX7_isText_51 : decode cX7_isText 51 = .ok (.aload_n 0, 1) := by decide +kernel
theorem dX7_isText_52 : decode cX7_isText 52 = .ok (.getfield 29, 3) := by decide +kernel
theorem dX7_isText_55 : decode cX7_isText 55 = .ok (.imul, 1) := by decide +kernel
theorem dX7_isText_56 : decode cX7_isText 56 = .ok (.iload_n 1, 1) := by decide +kernel
theorem dX7_isText_57 : decode cX7_isText 57 = .ok (.iadd, 1) := by decide +kernel
theorem dX7_isText_58 : decode cX7_isText 58 = .ok (.aload_n 0, 1) := by decide +kernel
theorem dX7_isText_59 : decode cX7_isText 59 = .ok (.getfield 134, 3) := by decide +kernel
theorem dX7_isText_62 : decode cX7_isText 62 = .ok (.iastore, 1) := by decide +kernel
theorem dX7_isText_63 : decode cX7_isText 63 = .ok (.aload_n 0, 1) := by decide +kernel
theorem dX7_isText_64 : decode cX7_isText 64 = .ok (.invokevirtual 167, 3) := by decide +kernel
theorem dX7_isText_67 : decode cX7_isText 67 = .ok (.iinc 1 1, 3) := by decide +kernel
theorem dX7_isText_70 : decode cX7_isText 70 = .ok (.goto (-64), 3) := by decide +kernel
theorem dX7_isText_73 : decode cX7_isText 73 = .ok (.aload_n 0, 1) := by decide +kernel
theorem dX7_isText_74 : decode cX7_isText 74 = .ok (.getfield 131, 3) := by decide +kernel
theorem dX7_isText_77 : decode cX7_isText 77 = .ok (.ifCond .ne 7, 3) := by decide +kernel
theorem dX7_isText_80 : decode cX7_isText 80 = .ok (.iconst 1, 1) := by decide +kernel
theorem dX7_isText_81 : decode cX7_isText 81 = .ok (.goto 4, 3) := by decide +kernel
theorem dX7_isText_84 : decode cX7_isText 84 = .ok (.iconst 0, 1) := by decide +kernel
theorem dX7_isText_85 : decode cX7_isText 85 = .ok (.ireturn, 1) := by decide +kernel
theorem dX7_text_0 : decode cX7_text 0 = .ok (.aload_n 0, 1) := by decide +kernel
theorem dX7_text_1 : decode cX7_text 1 = .ok (.getfield 29, 3) := by decide +kernel
theorem dX7_text_4 : decode cX7_text 4 = .ok (.bipush 6, 2) := by decide +kernel
theorem dX7_text_6 : decode cX7_text 6 = .ok (.if_icmp .ne 6, 3) := by decide +kernel
theorem dX7_text_9 : decode cX7_text 9 = .ok (.bipush (-4), 2) := by decide +kernel
theorem dX7_text_11 : decode cX7_text 11 = .ok (.ireturn, 1) := by decide +kernel
theorem dX7_text_12 : decode cX7_text 12 = .ok (.aload_n 0, 1) := by decide +kernel
theorem dX7_text_13 : decode cX7_text 13 = .ok (.iconst 0, 1) := by decide +kernel
theorem dX7_text_14 : decode cX7_text 14 = .ok (.putfield 122, 3) := by decide +kernel
theorem dX7_text_17 : decode cX7_text 17 = .ok (.aload_n 0, 1) := by decide +kernel
theorem dX7_text_18 : decode cX7_text 18 = .ok (.iconst 0, 1) := by decide +kernel
theorem dX7_text_19 : decode cX7_text 19 = .ok (.putfield 149, 3) := by decide +kernel
theorem dX7_text_22 : decode cX7_text 22 = .ok (.aload_n 0, 1) := by decide +kernel
theorem dX7_text_23 : decode cX7_text 23 = .ok (.iconst 0, 1) := by decide +kernel
theorem dX7_text_24 : decode cX7_text 24 = .ok (.putfield 134, 3) := by decide +kernel
theorem dX7_text_27 : decode cX7_text 27 = .ok (.aload_n 0, 1) := by decide +kernel
theorem dX7_text_28 : decode cX7_text 28 = .ok (.invokevirtual 180, 3) := by decide +kernel
theorem dX7_text_31 : decode cX7_text 31 = .ok (.istore_n 1, 1) := by decide +kernel
theorem dX7_text_32 : decode cX7_text 32 = .ok (.aload_n 0, 1) := by decide +kernel
theorem dX7_text_33 : decode cX7_text 33 = .ok (.iconst 0, 1) := by decide +kernel
theorem dX7_text_34 : decode cX7_text 34 = .ok (.putfield 119, 3) := by decide +kernel
theorem dX7_text_37 : decode cX7_text 37 = .ok (.iload_n 1, 1) := by decide +kernel
theorem dX7_text_38 : decode cX7_text 38 = .ok (.ifCond .ne 11, 3) := by decide +kernel
theorem dX7_text_41 : decode cX7_text 41 = .ok (.bipush (-100), 2) := by decide +kernel
theorem dX7_text_43 : decode cX7_text 43 = .ok (.aload_n 0, 1) := by decide +kernel
theorem dX7_text_44 : decode cX7_text 44 = .ok (.getfield 125, 3) := by decide +kernel
theorem dX7_text_47 : decode cX7_text 47 = .ok (.isub, 1) := by decide +kernel
theorem dX7_text_48 : decode cX7_text 48 = .ok (.ireturn, 1) := by decide +kernel
theorem dX7_text_49 : decode cX7_text 49 = .ok (.aload_n 0, 1) := by decide +kernel
theorem dX7_text_50 : decode cX7_text 50 = .ok (.dup, 1) := by decide +kernel
theorem dX7_text_51 : decode cX7_text 51 = .ok (.getfield 29, 3) := by decide +kernel
theorem dX7_text_54 : decode cX7_text 54 = .ok (.iconst 1, 1) := by decide +kernel
theorem dX7_text_55 : decode cX7_text 55 = .ok (.iadd, 1) := by decide +kernel
theorem dX7_text_56 : decode cX7_text 56 = .ok (.putfield 29, 3) := by decide +kernel
theorem dX7_text_59 : decode cX7_text 59 = .ok (.aload_n 0, 1) := by decide +kernel
theorem dX7_text_60 : decode cX7_text 60 = .ok (.getfield 29, 3) := by decide +kernel
theorem dX7_text_63 : decode cX7_text 63 = .ok (.iconst 1, 1) := by decide +kernel
theorem dX7_text_64 : decode cX7_text 64 = .ok (.isub, 1) := by decide +kernel
theorem dX7_text_65 : decode cX7_text 65 = .ok (.ireturn, 1) := by decide +kernel
theorem dX7_force_0 : decode cX7_force 0 = .ok (.iload_n 1, 1) := by decide +kernel
theorem dX7_force_1 : decode cX7_force 1 = .ok (.iconst 0, 1) := by decide +kernel
theorem dX7_force_2 : decode cX7_force 2 = .ok (.aload_n 0, 1) := by decide +kernel
theorem dX7_force_3 : decode cX7_force 3 = .ok (.getfield 29, 3) := by decide +kernel
theorem dX7_force_6 : decode cX7_force 6 = .ok (.iconst 1, 1) := by decide +kernel
theorem dX7_force_7 : decode cX7_force 7 = .ok (.isub, 1) := by decide +kernel
theorem dX7_force_8 : decode cX7_force 8 = .ok (.invokestatic 78, 3) := by decide +kernel
theorem dX7_force_11 : decode cX7_force 11 = .ok (.ifCond .ne 6, 3) := by decide +kernel
theorem dX7_force_14 : decode cX7_force 14 = .ok (.bipush (-2), 2) := by decide +kernel
theorem dX7_force_16 : decode cX7_force 16 = .ok (.ireturn, 1) := by decide +kernel
theorem dX7_force_17 : decode cX7_force 17 = .ok (.aload_n 0, 1) := by decide +kernel
theorem dX7_force_18 : decode cX7_force 18 = .ok (.getfield 7, 3) := by decide +kernel
theorem dX7_force_21 : decode cX7_force 21 = .ok (.bipush 62, 2) := by decide +kernel
theorem dX7_force_23 : decode cX7_force 23 = .ok (.iaload, 1) := by decide +kernel
theorem dX7_force_24 : decode cX7_force 24 = .ok (.istore_n 2, 1) := by decide +kernel
theorem dX7_force_25 : decode cX7_force 25 = .ok (.aload_n 0, 1) := by decide +kernel
theorem dX7_force_26 : decode cX7_force 26 = .ok (.getfield 7, 3) := by decide +kernel
theorem dX7_force_29 : decode cX7_force 29 = .ok (.bipush 62, 2) := by decide +kernel
theorem dX7_force_31 : decode cX7_force 31 = .ok (.iload_n 1, 1) := by decide +kernel
theorem dX7_force_32 : decode cX7_force 32 = .ok (.iastore, 1) := by decide +kernel
theorem dX7_force_33 : decode cX7_force 33 = .ok (.iload_n 2, 1) := by decide +kernel
theorem dX7_force_34 : decode cX7_force 34 = .ok (.ireturn, 1) := by decide +kernel
theorem dX7_yes_0 : decode cX7_yes 0 = .ok (.iload_n 0, 1) := by decide +kernel
theorem dX7_yes_1 : decode cX7_yes 1 = .ok (.ifCond .eq 7, 3) := by decide +kernel
theorem dX7_yes_4 : decode cX7_yes 4 = .ok (.iconst 1, 1) := by decide +kernel
theorem dX7_yes_5 : decode cX7_yes 5 = .ok (.goto 4, 3) := by decide +kernel
theorem dX7_yes_8 : decode cX7_yes 8 = .ok (.iconst 0, 1) := by decide +kernel
theorem dX7_yes_9 : decode cX7_yes 9 = .ok (.ireturn, 1) := by decide +kernel
theorem dX7_deed_0 : decode cX7_deed 0 = .ok (.iload_n 0, 1) := by decide +kernel
theorem dX7_deed_1 : decode cX7_deed 1 = .ok (.tableswitch 113 (-26) (-20) #[109, 105, 91, 77, 113, 60, 43], 43) := by decide +kernel
theorem dX7_deed_44 : decode cX7_deed 44 = .ok (.iload_n 1, 1) := by decide +kernel
theorem dX7_deed_45 : decode cX7_deed 45 = .ok (.ifCond .ne 7, 3) := by decide +kernel
theorem dX7_deed_48 : decode cX7_deed 48 = .ok (.iload_n 2, 1) := by decide +kernel
theorem dX7_deed_49 : decode cX7_deed 49 = .ok (.ifCond .eq 7, 3) := by decide +kernel
theorem dX7_deed_52 : decode cX7_deed 52 = .ok (.iconst 1, 1) := by decide +kernel
theorem dX7_deed_53 : decode cX7_deed 53 = .ok (.goto 4, 3) := by decide +kernel
theorem dX7_deed_56 : decode cX7_deed 56 = .ok (.iconst 0, 1) := by decide +kernel
theorem dX7_deed_57 : decode cX7_deed 57 = .ok (.invokestatic 183, 3) := by decide +kernel
theorem dX7_deed_60 : decode cX7_deed 60 = .ok (.ireturn, 1) := by decide +kernel
theorem dX7_deed_61 : decode cX7_deed 61 = .ok (.iload_n 1, 1) := by decide +kernel
theorem dX7_deed_62 : decode cX7_deed 62 = .ok (.ifCond .eq 11, 3) := by decide +kernel
theorem dX7_deed_65 : decode cX7_deed 65 = .ok (.iload_n 2, 1) := by decide +kernel
theorem dX7_deed_66 : decode cX7_deed 66 = .ok (.ifCond .eq 7, 3) := by decide +kernel
theorem dX7_deed_69 : decode cX7_deed 69 = .ok (.iconst 1, 1) := by decide +kernel
theorem dX7_deed_70 : decode cX7_deed 70 = .ok (.goto 4, 3) := by decide +kernel
theorem dX7_deed_73 : decode cX7_deed 73 = .ok (.iconst 0, 1) := by decide +kernel
theorem dX7_deed_74 : decode cX7_deed 74 = .ok (.invokestatic 183, 3) := by decide +kernel
theorem dX7_deed_77 : decode cX7_deed 77 = .ok (.ireturn, 1) := by decide +kernel
theorem dX7_deed_78 : decode cX7_deed 78 = .ok (.iload_n 1, 1) := by decide +kernel
theorem dX7_deed_79 : decode cX7_deed 79 = .ok (.iload_n 2, 1) := by decide +kernel
theorem dX7_deed_80 : decode cX7_deed 80 = .ok (.if_icmp .ge 7, 3) := by decide +kernel
theorem dX7_deed_83 : decode cX7_deed 83 = .ok (.iconst 1, 1) := by decide +kernel
theorem dX7_deed_84 : decode cX7_deed 84 = .ok (.goto 4, 3) := by decide +kernel
theorem dX7_deed_87 : decode cX7_deed 87 = .ok (.iconst 0, 1) := by decide +kernel
theorem dX7_deed_88 : decode cX7_deed 88 = .ok (.invokestatic 183, 3) := by decide +kernel
theorem dX7_deed_91 : decode cX7_deed 91 = .ok (.ireturn, 1) := by decide +kernel
theorem dX7_deed_92 : decode cX7_deed 92 = .ok (.iload_n 1, 1) := by decide +kernel
theorem dX7_deed_93 : decode cX7_deed 93 = .ok (.iload_n 2, 1) := by decide +kernel
theorem dX7_deed_94 : decode cX7_deed 94 = .ok (.if_icmp .ne 7, 3) := by decide +kernel
theorem dX7_deed_97 : decode cX7_deed 97 = .ok (.iconst 1, 1) := by decide +kernel
theorem dX7_deed_98 : decode cX7_deed 98 = .ok (.goto 4, 3) := by decide +kernel
theorem dX7_deed_101 : decode cX7_deed 101 = .ok (.iconst 0, 1) := by decide +kernel
theorem dX7_deed_102 : decode cX7_deed 102 = .ok (.invokestatic 183, 3) := by decide +kernel
theorem dX7_deed_105 : decode cX7_deed 105 = .ok (.ireturn, 1) := by decide +kernel
theorem dX7_deed_106 : decode cX7_deed 106 = .ok (.iload_n 1, 1) := by decide +kernel
theorem dX7_deed_107 : decode cX7_deed 107 = .ok (.iload_n 2, 1) := by decide +kernel
theorem dX7_deed_108 : decode cX7_deed 108 = .ok (.iadd, 1) := by decide +kernel
theorem dX7_deed_109 : decode cX7_deed 109 = .ok (.ireturn, 1) := by decide +kernel
theorem dX7_deed_110 : decode cX7_deed 110 = .ok (.iload_n 1, 1) := by decide +kernel
theorem dX7_deed_111 : decode cX7_deed 111 = .ok (.iload_n 2, 1) := by decide +kernel
theorem dX7_deed_112 : decode cX7_deed 112 = .ok (.isub, 1) := by decide +kernel
theorem dX7_deed_113 : decode cX7_deed 113 = .ok (.ireturn, 1) := by decide +kernel
theorem dX7_deed_114 : decode cX7_deed 114 = .ok (.iload_n 1, 1) := by decide +kernel
theorem dX7_deed_115 : decode cX7_deed 115 = .ok (.iload_n 2, 1) := by decide +kernel
theorem dX7_deed_116 : decode cX7_deed 116 = .ok (.imul, 1) := by decide +kernel
theorem dX7_deed_117 : decode cX7_deed 117 = .ok (.ireturn, 1) := by decide +kernel
theorem dX7_tell_0 : decode cX7_tell 0 = .ok (.aload_n 0, 1) := by decide +kernel
theorem dX7_tell_1 : decode cX7_tell 1 = .ok (.getfield 187, 3) := by decide +kernel
theorem dX7_tell_4 : decode cX7_tell 4 = .ok (.istore 4, 2) := by decide +kernel
theorem dX7_tell_6 : decode cX7_tell 6 = .ok (.iload_n 1, 1) := by decide +kernel
theorem dX7_tell_7 : decode cX7_tell 7 = .ok (.ifCond .ne 7, 3) := by decide +kernel
theorem dX7_tell_10 : decode cX7_tell 10 = .ok (.iconst 0, 1) := by decide +kernel
theorem dX7_tell_11 : decode cX7_tell 11 = .ok (.goto 16, 3) := by decide +kernel
theorem dX7_tell_14 : decode cX7_tell 14 = .ok (.aload_n 0, 1) := by decide +kernel
theorem dX7_tell_15 : decode cX7_tell 15 = .ok (.getfield 22, 3) := by decide +kernel
theorem dX7_tell_18 : decode cX7_tell 18 = .ok (.iconst 3, 1) := by decide +kernel
theorem dX7_tell_19 : decode cX7_tell 19 = .ok (.iload 4, 2) := by decide +kernel
theorem dX7_tell_21 : decode cX7_tell 21 = .ok (.imul, 1) := by decide +kernel
theorem dX7_tell_22 : decode cX7_tell 22 = .ok (.iload_n 1, 1) := by decide +kernel
theorem dX7_tell_23 : decode cX7_tell 23 = .ok (.iadd, 1) := by decide +kernel
theorem dX7_tell_24 : decode cX7_tell 24 = .ok (.iconst 1, 1) := by decide +kernel
theorem dX7_tell_25 : decode cX7_tell 25 = .ok (.isub, 1) := by decide +kernel
theorem dX7_tell_26 : decode cX7_tell 26 = .ok (.iaload, 1) := by decide +kernel
theorem dX7_tell_27 : decode cX7_tell 27 = .ok (.istore 5, 2) := by decide +kernel
theorem dX7_tell_29 : decode cX7_tell 29 = .ok (.iconst 0, 1) := by decide +kernel
theorem dX7_tell_30 : decode cX7_tell 30 = .ok (.istore 6, 2) := by decide +kernel
theorem dX7_tell_32 : decode cX7_tell 32 = .ok (.iload 5, 2) := by decide +kernel
theorem dX7_tell_34 : decode cX7_tell 34 = .ok (.istore 7, 2) := by decide +kernel
theorem dX7_tell_36 : decode cX7_tell 36 = .ok (.iload 7, 2) := by decide +kernel
theorem dX7_tell_38 : decode cX7_tell 38 = .ok (.aload_n 0, 1) := by decide +kernel
theorem dX7_tell_39 : decode cX7_tell 39 = .ok (.getfield 22, 3) := by decide +kernel
theorem dX7_tell_42 : decode cX7_tell 42 = .ok (.iconst 3, 1) := by decide +kernel
theorem dX7_tell_43 : decode cX7_tell 43 = .ok (.iload 4, 2) := by decide +kernel
theorem dX7_tell_45 : decode cX7_tell 45 = .ok (.imul, 1) := by decide +kernel
theorem dX7_tell_46 : decode cX7_tell 46 = .ok (.iload_n 1, 1) := by decide +kernel
theorem dX7_tell_47 : decode cX7_tell 47 = .ok (.iadd, 1) := by decide +kernel
theorem dX7_tell_48 : decode cX7_tell 48 = .ok (.iaload, 1) := by decide +kernel
theorem dX7_tell_49 : decode cX7_tell 49 = .ok (.if_icmp .ge 238, 3) := by decide +kernel
theorem dX7_tell_52 : decode cX7_tell 52 = .ok (.aload_n 0, 1) := by decide +kernel
theorem dX7_tell_53 : decode cX7_tell 53 = .ok (.getfield 19, 3) := by decide +kernel
theorem dX7_tell_56 : decode cX7_tell 56 = .ok (.sipush 160, 3) := by decide +kernel
theorem dX7_tell_59 : decode cX7_tell 59 = .ok (.iload 4, 2) := by decide +kernel
theorem dX7_tell_61 : decode cX7_tell 61 = .ok (.imul, 1) := by decide +kernel
theorem dX7_tell_62 : decode cX7_tell 62 = .ok (.iload 7, 2) := by decide +kernel
theorem dX7_tell_64 : decode cX7_tell 64 = .ok (.iadd, 1) := by decide +kernel
theorem dX7_tell_65 : decode cX7_tell 65 = .ok (.iaload, 1) := by decide +kernel
theorem dX7_tell_66 : decode cX7_tell 66 = .ok (.istore 8, 2) := by decide +kernel
theorem dX7_tell_68 : decode cX7_tell 68 = .ok (.iload 8, 2) := by decide +kernel
theorem dX7_tell_70 : decode cX7_tell 70 = .ok (.ifCond .lt 18, 3) := by decide +kernel
theorem dX7_tell_73 : decode cX7_tell 73 = .ok (.aload_n 0, 1) := by decide +kernel
theorem dX7_tell_74 : decode cX7_tell 74 = .ok (.getfield 40, 3) := by decide +kernel
theorem dX7_tell_77 : decode cX7_tell 77 = .ok (.iload 6, 2) := by decide +kernel
theorem dX7_tell_79 : decode cX7_tell 79 = .ok (.iload 8, 2) := by decide +kernel
theorem dX7_tell_81 : decode cX7_tell 81 = .ok (.iastore, 1) := by decide +kernel
theorem dX7_tell_82 : decode cX7_tell 82 = .ok (.iinc 6 1, 3) := by decide +kernel
theorem dX7_tell_85 : decode cX7_tell 85 = .ok (.goto 196, 3) := by decide +kernel
theorem dX7_tell_88 : decode cX7_tell 88 = .ok (.iload 8, 2) := by decide +kernel
theorem dX7_tell_90 : decode cX7_tell 90 = .ok (.bipush (-20), 2) := by decide +kernel
theorem dX7_tell_92 : decode cX7_tell 92 = .ok (.if_icmp .le 88, 3) := by decide +kernel
theorem dX7_tell_95 : decode cX7_tell 95 = .ok (.bipush (-10), 2) := by decide +kernel
theorem dX7_tell_97 : decode cX7_tell 97 = .ok (.iload 8, 2) := by decide +kernel
theorem dX7_tell_99 : decode cX7_tell 99 = .ok (.isub, 1) := by decide +kernel
theorem dX7_tell_100 : decode cX7_tell 100 = .ok (.istore 9, 2) := by decide +kernel
theorem dX7_tell_102 : decode cX7_tell 102 = .ok (.aload_n 0, 1) := by decide +kernel
theorem dX7_tell_103 : decode cX7_tell 103 = .ok (.getfield 40, 3) := by decide +kernel
theorem dX7_tell_106 : decode cX7_tell 106 = .ok (.iload 6, 2) := by decide +kernel
theorem dX7_tell_108 : decode cX7_tell 108 = .ok (.iload 9, 2) := by decide +kernel
theorem dX7_tell_110 : decode cX7_tell 110 = .ok (.ifCond .ne 7, 3) := by decide +kernel
theorem dX7_tell_113 : decode cX7_tell 113 = .ok (.iload_n 2, 1) := by decide +kernel
theorem dX7_tell_114 : decode cX7_tell 114 = .ok (.goto 59, 3) := by decide +kernel
theorem dX7_tell_117 : decode cX7_tell 117 = .ok (.iload 9, 2) := by decide +kernel
theorem dX7_tell_119 : decode cX7_tell 119 = .ok (.iconst 1, 1) := by decide +kernel
theorem dX7_tell_120 : decode cX7_tell 120 = .ok (.if_icmp .ne 7, 3) := by decide +kernel
theorem dX7_tell_123 : decode cX7_tell 123 = .ok (.iload_n 3, 1) := by decide +kernel
theorem dX7_tell_124 : decode cX7_tell 124 = .ok (.goto 49, 3) := by decide +kernel
theorem dX7_tell_127 : decode cX7_tell 127 = .ok (.iload 9, 2) := by decide +kernel
theorem dX7_tell_129 : decode cX7_tell 129 = .ok (.iconst 2, 1) := by decide +kernel
theorem dX7_tell_130 : decode cX7_tell 130 = .ok (.if_icmp .ne 10, 3) := by decide +kernel
theorem dX7_tell_133 : decode cX7_tell 133 = .ok (.aload_n 0, 1) := by decide +kernel
theorem dX7_tell_134 : decode cX7_tell 134 = .ok (.getfield 190, 3) := by decide +kernel
theorem dX7_tell_137 : decode cX7_tell 137 = .ok (.goto 36, 3) := by decide +kernel
theorem dX7_tell_140 : decode cX7_tell 140 = .ok (.iload 9, 2) := by decide +kernel
theorem dX7_tell_142 : decode cX7_tell 142 = .ok (.iconst 3, 1) := by decide +kernel
theorem dX7_tell_143 : decode cX7_tell 143 = .ok (.if_icmp .ne 13, 3) := by decide +kernel
theorem dX7_tell_146 : decode cX7_tell 146 = .ok (.aload_n 0, 1) := by decide +kernel
theorem dX7_tell_147 : decode cX7_tell 147 = .ok (.getfield 7, 3) := by decide +kernel
theorem dX7_tell_150 : decode cX7_tell 150 = .ok (.bipush 61, 2) := by decide +kernel
theorem dX7_tell_152 : decode cX7_tell 152 = .ok (.iaload, 1) := by decide +kernel
theorem dX7_tell_153 : decode cX7_tell 153 = .ok (.goto 20, 3) := by decide +kernel
theorem dX7_tell_156 : decode cX7_tell 156 = .ok (.iload 9, 2) := by decide +kernel
theorem dX7_tell_158 : decode cX7_tell 158 = .ok (.iconst 4, 1) := by decide +kernel
theorem dX7_tell_159 : decode cX7_tell 159 = .ok (.if_icmp .ne 10, 3) := by decide +kernel
theorem dX7_tell_162 : decode cX7_tell 162 = .ok (.aload_n 0, 1) := by decide +kernel
theorem dX7_tell_163 : decode cX7_tell 163 = .ok (.getfield 193, 3) := by decide +kernel
theorem dX7_tell_166 : decode cX7_tell 166 = .ok (.goto 7, 3) := by decide +kernel
theorem dX7_tell_169 : decode cX7_tell 169 = .ok (.aload_n 0, 1) := by decide +kernel
theorem dX7_tell_170 : decode cX7_tell 170 = .ok (.invokevirtual 94, 3) := by decide +kernel
theorem dX7_tell_173 : decode cX7_tell 173 = .ok (.iastore, 1) := by decide +kernel
theorem dX7_tell_174 : decode cX7_tell 174 = .ok (.iinc 6 1, 3) := by decide +kernel
theorem dX7_tell_177 : decode cX7_tell 177 = .ok (.goto 104, 3) := by decide +kernel
theorem dX7_tell_180 : decode cX7_tell 180 = .ok (.iload 8, 2) := by decide +kernel
theorem dX7_tell_182 : decode cX7_tell 182 = .ok (.bipush (-22), 2) := by decide +kernel
theorem dX7_tell_184 : decode cX7_tell 184 = .ok (.if_icmp .ne 35, 3) := by decide +kernel
theorem dX7_tell_187 : decode cX7_tell 187 = .ok (.aload_n 0, 1) := by decide +kernel
theorem dX7_tell_188 : decode cX7_tell 188 = .ok (.getfield 40, 3) := by decide +kernel
theorem dX7_tell_191 : decode cX7_tell 191 = .ok (.iload 6, 2) := by decide +kernel
theorem dX7_tell_193 : decode cX7_tell 193 = .ok (.iconst 1, 1) := by decide +kernel
theorem dX7_tell_194 : decode cX7_tell 194 = .ok (.isub, 1) := by decide +kernel
theorem dX7_tell_195 : decode cX7_tell 195 = .ok (.aload_n 0, 1) := by decide +kernel
theorem dX7_tell_196 : decode cX7_tell 196 = .ok (.getfield 40, 3) := by decide +kernel
theorem dX7_tell_199 : decode cX7_tell 199 = .ok (.iload 6, 2) := by decide +kernel
theorem dX7_tell_201 : decode cX7_tell 201 = .ok (.iconst 1, 1) := by decide +kernel
theorem dX7_tell_202 : decode cX7_tell 202 = .ok (.isub, 1) := by decide +kernel
theorem dX7_tell_203 : decode cX7_tell 203 = .ok (.iaload, 1) := by decide +kernel
theorem dX7_tell_204 : decode cX7_tell 204 = .ok (.ifCond .ne 7, 3) := by decide +kernel
theorem dX7_tell_207 : decode cX7_tell 207 = .ok (.iconst 1, 1) := by decide +kernel
theorem dX7_tell_208 : decode cX7_tell 208 = .ok (.goto 4, 3) := by decide +kernel
theorem dX7_tell_211 : decode cX7_tell 211 = .ok (.iconst 0, 1) := by decide +kernel
theorem dX7_tell_212 : decode cX7_tell 212 = .ok (.invokestatic 183, 3) := by decide +kernel
theorem dX7_tell_215 : decode cX7_tell 215 = .ok (.iastore, 1) := by decide +kernel
theorem dX7_tell_216 : decode cX7_tell 216 = .ok (.goto 65, 3) := by decide +kernel
theorem dX7_tell_219 : decode cX7_tell 219 = .ok (.iload 8, 2) := by decide +kernel
theorem dX7_tell_221 : decode cX7_tell 221 = .ok (.bipush (-28), 2) := by decide +kernel
theorem dX7_tell_223 : decode cX7_tell 223 = .ok (.if_icmp .ne 25, 3) := by decide +kernel
theorem dX7_tell_226 : decode cX7_tell 226 = .ok (.aload_n 0, 1) := by decide +kernel
theorem dX7_tell_227 : decode cX7_tell 227 = .ok (.getfield 40, 3) := by decide +kernel
theorem dX7_tell_230 : decode cX7_tell 230 = .ok (.iload 6, 2) := by decide +kernel
theorem dX7_tell_232 : decode cX7_tell 232 = .ok (.iconst 1, 1) := by decide +kernel
theorem dX7_tell_233 : decode cX7_tell 233 = .ok (.isub, 1) := by decide +kernel
theorem dX7_tell_234 : decode cX7_tell 234 = .ok (.aload_n 0, 1) := by decide +kernel
theorem dX7_tell_235 : decode cX7_tell 235 = .ok (.getfield 40, 3) := by decide +kernel
theorem dX7_tell_238 : decode cX7_tell 238 = .ok (.iload 6, 2) := by decide +kernel
theorem dX7_tell_240 : decode cX7_tell 240 = .ok (.iconst 1, 1) := by decide +kernel
theorem dX7_tell_241 : decode cX7_tell 241 = .ok (.isub, 1) := by decide +kernel
theorem dX7_tell_242 : decode cX7_tell 242 = .ok (.iaload, 1) := by decide +kernel
theorem dX7_tell_243 : decode cX7_tell 243 = .ok (.ineg, 1) := by decide +kernel
theorem dX7_tell_244 : decode cX7_tell 244 = .ok (.iastore, 1) := by decide +kernel
theorem dX7_tell_245 : decode cX7_tell 245 = .ok (.goto 36, 3) := by decide +kernel
theorem dX7_tell_248 : decode cX7_tell 248 = .ok (.iinc 6 (-1), 3) := by decide +kernel
theorem dX7_tell_251 : decode cX7_tell 251 = .ok (.aload_n 0, 1) := by decide +kernel
theorem dX7_tell_252 : decode cX7_tell 252 = .ok (.getfield 40, 3) := by decide +kernel
theorem dX7_tell_255 : decode cX7_tell 255 = .ok (.iload 6, 2) := by decide +kernel
theorem dX7_tell_257 : decode cX7_tell 257 = .ok (.iconst 1, 1) := by decide +kernel
theorem dX7_tell_258 : decode cX7_tell 258 = .ok (.isub, 1) := by decide +kernel
theorem dX7_tell_259 : decode cX7_tell 259 = .ok (.iload 8, 2) := by decide +kernel
theorem dX7_tell_261 : decode cX7_tell 261 = .ok (.aload_n 0, 1) := by decide +kernel
theorem dX7_tell_262 : decode cX7_tell 262 = .ok (.getfield 40, 3) := by decide +kernel
theorem dX7_tell_265 : decode cX7_tell 265 = .ok (.iload 6, 2) := by decide +kernel
theorem dX7_tell_267 : decode cX7_tell 267 = .ok (.iconst 1, 1) := by decide +kernel
theorem dX7_tell_268 : decode cX7_tell 268 = .ok (.isub, 1) := by decide +kernel
theorem dX7_tell_269 : decode cX7_tell 269 = .ok (.iaload, 1) := by decide +kernel
theorem dX7_tell_270 : decode cX7_tell 270 = .ok (.aload_n 0, 1) := by decide +kernel
theorem dX7_tell_271 : decode cX7_tell 271 = .ok (.getfield 40, 3) := by decide +kernel
theorem dX7_tell_274 : decode cX7_tell 274 = .ok (.iload 6, 2) := by decide +kernel
theorem dX7_tell_276 : decode cX7_tell 276 = .ok (.iaload, 1) := by decide +kernel
theorem dX7_tell_277 : decode cX7_tell 277 = .ok (.invokestatic 196, 3) := by decide +kernel
theorem dX7_tell_280 : decode cX7_tell 280 = .ok (.iastore, 1) := by decide +kernel
theorem dX7_tell_281 : decode cX7_tell 281 = .ok (.iinc 7 1, 3) := by decide +kernel
theorem dX7_tell_284 : decode cX7_tell 284 = .ok (.goto (-248), 3) := by decide +kernel
theorem dX7_tell_287 : decode cX7_tell 287 = .ok (.aload_n 0, 1) := by decide +kernel
theorem dX7_tell_288 : decode cX7_tell 288 = .ok (.getfield 40, 3) := by decide +kernel
theorem dX7_tell_291 : decode cX7_tell 291 = .ok (.iconst 0, 1) := by decide +kernel
theorem dX7_tell_292 : decode cX7_tell 292 = .ok (.iaload, 1) := by decide +kernel
theorem dX7_tell_293 : decode cX7_tell 293 = .ok (.ireturn, 1) := by decide +kernel
theorem dX7_take_0 : decode cX7_take 0 = .ok (.aload_n 0, 1) := by decide +kernel
theorem dX7_take_1 : decode cX7_take 1 = .ok (.aload_n 0, 1) := by decide +kernel
theorem dX7_take_2 : decode cX7_take 2 = .ok (.iload_n 1, 1) := by decide +kernel
theorem dX7_take_3 : decode cX7_take 3 = .ok (.invokevirtual 107, 3) := by decide +kernel
theorem dX7_take_6 : decode cX7_take 6 = .ok (.putfield 200, 3) := by decide +kernel
theorem dX7_take_9 : decode cX7_take 9 = .ok (.aload_n 0, 1) := by decide +kernel
theorem dX7_take_10 : decode cX7_take 10 = .ok (.aload_n 0, 1) := by decide +kernel
theorem dX7_take_11 : decode cX7_take 11 = .ok (.iload_n 1, 1) := by decide +kernel
theorem dX7_take_12 : decode cX7_take 12 = .ok (.invokevirtual 104, 3) := by decide +kernel
theorem dX7_take_15 : decode cX7_take 15 = .ok (.putfield 190, 3) := by decide +kernel
theorem dX7_take_18 : decode cX7_take 18 = .ok (.aload_n 0, 1) := by decide +kernel
theorem dX7_take_19 : decode cX7_take 19 = .ok (.aload_n 0, 1) := by decide +kernel
theorem dX7_take_20 : decode cX7_take 20 = .ok (.getfield 7, 3) := by decide +kernel
theorem dX7_take_23 : decode cX7_take 23 = .ok (.bipush 62, 2) := by decide +kernel
theorem dX7_take_25 : decode cX7_take 25 = .ok (.iaload, 1) := by decide +kernel
theorem dX7_take_26 : decode cX7_take 26 = .ok (.putfield 187, 3) := by decide +kernel
theorem dX7_take_29 : decode cX7_take 29 = .ok (.aload_n 0, 1) := by decide +kernel
theorem dX7_take_30 : decode cX7_take 30 = .ok (.aload_n 0, 1) := by decide +kernel
theorem dX7_take_31 : decode cX7_take 31 = .ok (.invokevirtual 203, 3) := by decide +kernel
theorem dX7_take_34 : decode cX7_take 34 = .ok (.putfield 193, 3) := by decide +kernel
theorem dX7_take_37 : decode cX7_take 37 = .ok (.return_, 1) := by decide +kernel
theorem dX7_heats_0 : decode cX7_heats 0 = .ok (.aload_n 0, 1) := by decide +kernel
theorem dX7_heats_1 : decode cX7_heats 1 = .ok (.iconst 0, 1) := by decide +kernel
theorem dX7_heats_2 : decode cX7_heats 2 = .ok (.iload_n 2, 1) := by decide +kernel
theorem dX7_heats_3 : decode cX7_heats 3 = .ok (.iload_n 1, 1) := by decide +kernel
theorem dX7_heats_4 : decode cX7_heats 4 = .ok (.invokevirtual 206, 3) := by decide +kernel
theorem dX7_heats_7 : decode cX7_heats 7 = .ok (.bipush (-99), 2) := by decide +kernel
theorem dX7_heats_9 : decode cX7_heats 9 = .ok (.bipush 99, 2) := by decide +kernel
theorem dX7_heats_11 : decode cX7_heats 11 = .ok (.invokestatic 209, 3) := by decide +kernel
theorem dX7_heats_14 : decode cX7_heats 14 = .ok (.istore_n 3, 1) := by decide +kernel
theorem dX7_heats_15 : decode cX7_heats 15 = .ok (.iload_n 2, 1) := by decide +kernel
theorem dX7_heats_16 : decode cX7_heats 16 = .ok (.aload_n 0, 1) := by decide +kernel
theorem dX7_heats_17 : decode cX7_heats 17 = .ok (.getfield 190, 3) := by decide +kernel
theorem dX7_heats_20 : decode cX7_heats 20 = .ok (.bipush 6, 2) := by decide +kernel
theorem dX7_heats_22 : decode cX7_heats 22 = .ok (.irem, 1) := by decide +kernel
theorem dX7_heats_23 : decode cX7_heats 23 = .ok (.if_icmp .ne 9, 3) := by decide +kernel
theorem dX7_heats_26 : decode cX7_heats 26 = .ok (.iconst 2, 1) := by decide +kernel
theorem dX7_heats_27 : decode cX7_heats 27 = .ok (.iload_n 3, 1) := by decide +kernel
theorem dX7_heats_28 : decode cX7_heats 28 = .ok (.imul, 1) := by decide +kernel
theorem dX7_heats_29 : decode cX7_heats 29 = .ok (.goto 4, 3) := by decide +kernel
theorem dX7_heats_32 : decode cX7_heats 32 = .ok (.iload_n 3, 1) := by decide +kernel
theorem dX7_heats_33 : decode cX7_heats 33 = .ok (.istore 4, 2) := by decide +kernel
theorem dX7_heats_35 : decode cX7_heats 35 = .ok (.aload_n 0, 1) := by decide +kernel
theorem dX7_heats_36 : decode cX7_heats 36 = .ok (.getfield 200, 3) := by decide +kernel
theorem dX7_heats_39 : decode cX7_heats 39 = .ok (.tableswitch 73 1 5 #[33, 43, 47, 56, 71], 33) := by decide +kernel
theorem dX7_heats_72 : decode cX7_heats 72 = .ok (.iload 4, 2) := by decide +kernel
theorem dX7_heats_74 : decode cX7_heats 74 = .ok (.bipush (-99), 2) := by decide +kernel
theorem dX7_heats_76 : decode cX7_heats 76 = .ok (.bipush 99, 2) := by decide +kernel
theorem dX7_heats_78 : decode cX7_heats 78 = .ok (.invokestatic 209, 3) := by decide +kernel
theorem dX7_heats_81 : decode cX7_heats 81 = .ok (.ireturn, 1) := by decide +kernel
theorem dX7_heats_82 : decode cX7_heats 82 = .ok (.iload_n 3, 1) := by decide +kernel
theorem dX7_heats_83 : decode cX7_heats 83 = .ok (.iconst 2, 1) := by decide +kernel
theorem dX7_heats_84 : decode cX7_heats 84 = .ok (.idiv, 1) := by decide +kernel
theorem dX7_heats_85 : decode cX7_heats 85 = .ok (.ireturn, 1) := by decide +kernel
theorem dX7_heats_86 : decode cX7_heats 86 = .ok (.iload 4, 2) := by decide +kernel
theorem dX7_heats_88 : decode cX7_heats 88 = .ok (.iconst 0, 1) := by decide +kernel
theorem dX7_heats_89 : decode cX7_heats 89 = .ok (.bipush 99, 2) := by decide +kernel
theorem dX7_heats_91 : decode cX7_heats 91 = .ok (.invokestatic 209, 3) := by decide +kernel
theorem dX7_heats_94 : decode cX7_heats 94 = .ok (.ireturn, 1) := by decide +kernel
theorem dX7_heats_95 : decode cX7_heats 95 = .ok (.iload_n 1, 1) := by decide +kernel
theorem dX7_heats_96 : decode cX7_heats 96 = .ok (.bipush 20, 2) := by decide +kernel
theorem dX7_heats_98 : decode cX7_heats 98 = .ok (.if_icmp .ge 8, 3) := by decide +kernel
theorem dX7_heats_101 : decode cX7_heats 101 = .ok (.bipush (-10), 2) := by decide +kernel
theorem dX7_heats_103 : decode cX7_heats 103 = .ok (.goto 6, 3) := by decide +kernel
theorem dX7_heats_106 : decode cX7_heats 106 = .ok (.iload_n 3, 1) := by decide +kernel
theorem dX7_heats_107 : decode cX7_heats 107 = .ok (.iconst 2, 1) := by decide +kernel
theorem dX7_heats_108 : decode cX7_heats 108 = .ok (.idiv, 1) := by decide +kernel
theorem dX7_heats_109 : decode cX7_heats 109 = .ok (.ireturn, 1) := by decide +kernel
theorem dX7_heats_110 : decode cX7_heats 110 = .ok (.iconst 0, 1) := by decide +kernel
theorem dX7_heats_111 : decode cX7_heats 111 = .ok (.ireturn, 1) := by decide +kernel
theorem dX7_heats_112 : decode cX7_heats 112 = .ok (.iload_n 3, 1) := by decide +kernel
theorem dX7_heats_113 : decode cX7_heats 113 = .ok (.ireturn, 1) := by decide +kernel
theorem dX7_cools_0 : decode cX7_cools 0 = .ok (.aload_n 0, 1) := by decide +kernel
theorem dX7_cools_1 : decode cX7_cools 1 = .ok (.iconst 1, 1) := by decide +kernel
theorem dX7_cools_2 : decode cX7_cools 2 = .ok (.iconst 0, 1) := by decide +kernel
theorem dX7_cools_3 : decode cX7_cools 3 = .ok (.iload_n 1, 1) := by decide +kernel
theorem dX7_cools_4 : decode cX7_cools 4 = .ok (.invokevirtual 206, 3) := by decide +kernel
theorem dX7_cools_7 : decode cX7_cools 7 = .ok (.iconst 0, 1) := by decide +kernel
theorem dX7_cools_8 : decode cX7_cools 8 = .ok (.bipush 99, 2) := by decide +kernel
theorem dX7_cools_10 : decode cX7_cools 10 = .ok (.invokestatic 209, 3) := by decide +kernel
theorem dX7_cools_13 : decode cX7_cools 13 = .ok (.istore_n 2, 1) := by decide +kernel
theorem dX7_cools_14 : decode cX7_cools 14 = .ok (.aload_n 0, 1) := by decide +kernel
theorem dX7_cools_15 : decode cX7_cools 15 = .ok (.getfield 200, 3) := by decide +kernel
theorem dX7_cools_18 : decode cX7_cools 18 = .ok (.tableswitch 82 1 4 #[30, 40, 50, 70], 30) := by decide +kernel
theorem dX7_cools_48 : decode cX7_cools 48 = .ok (.iload_n 2, 1) := by decide +kernel
theorem dX7_cools_49 : decode cX7_cools 49 = .ok (.iconst 1, 1) := by decide +kernel
theorem dX7_cools_50 : decode cX7_cools 50 = .ok (.isub, 1) := by decide +kernel
theorem dX7_cools_51 : decode cX7_cools 51 = .ok (.iconst 0, 1) := by decide +kernel
theorem dX7_cools_52 : decode cX7_cools 52 = .ok (.bipush 99, 2) := by decide +kernel
theorem dX7_cools_54 : decode cX7_cools 54 = .ok (.invokestatic 209, 3) := by decide +kernel
theorem dX7_cools_57 : decode cX7_cools 57 = .ok (.ireturn, 1) := by decide +kernel
theorem dX7_cools_58 : decode cX7_cools 58 = .ok (.iload_n 2, 1) := by decide +kernel
theorem dX7_cools_59 : decode cX7_cools 59 = .ok (.iconst 3, 1) := by decide +kernel
theorem dX7_cools_60 : decode cX7_cools 60 = .ok (.iadd, 1) := by decide +kernel
theorem dX7_cools_61 : decode cX7_cools 61 = .ok (.iconst 0, 1) := by decide +kernel
theorem dX7_cools_62 : decode cX7_cools 62 = .ok (.bipush 99, 2) := by decide +kernel
theorem dX7_cools_64 : decode cX7_cools 64 = .ok (.invokestatic 209, 3) := by decide +kernel
theorem dX7_cools_67 : decode cX7_cools 67 = .ok (.ireturn, 1) := by decide +kernel
theorem dX7_cools_68 : decode cX7_cools 68 = .ok (.iload_n 1, 1) := by decide +kernel
theorem dX7_cools_69 : decode cX7_cools 69 = .ok (.bipush 50, 2) := by decide +kernel
theorem dX7_cools_71 : decode cX7_cools 71 = .ok (.if_icmp .le 7, 3) := by decide +kernel
theorem dX7_cools_74 : decode cX7_cools 74 = .ok (.iconst 0, 1) := by decide +kernel
theorem dX7_cools_75 : decode cX7_cools 75 = .ok (.goto 12, 3) := by decide +kernel
theorem dX7_cools_78 : decode cX7_cools 78 = .ok (.iload_n 2, 1) := by decide +kernel
theorem dX7_cools_79 : decode cX7_cools 79 = .ok (.iconst 1, 1) := by decide +kernel
theorem dX7_cools_80 : decode cX7_cools 80 = .ok (.isub, 1) := by decide +kernel
theorem dX7_cools_81 : decode cX7_cools 81 = .ok (.iconst 0, 1) := by decide +kernel
theorem dX7_cools_82 : decode cX7_cools 82 = .ok (.bipush 99, 2) := by decide +kernel
theorem dX7_cools_84 : decode cX7_cools 84 = .ok (.invokestatic 209, 3) := by decide +kernel
theorem dX7_cools_87 : decode cX7_cools 87 = .ok (.ireturn, 1) := by decide +kernel
theorem dX7_cools_88 : decode cX7_cools 88 = .ok (.iconst 2, 1) := by decide +kernel
theorem dX7_cools_89 : decode cX7_cools 89 = .ok (.iload_n 2, 1) := by decide +kernel
theorem dX7_cools_90 : decode cX7_cools 90 = .ok (.iconst 3, 1) := by decide +kernel
theorem dX7_cools_91 : decode cX7_cools 91 = .ok (.iadd, 1) := by decide +kernel
theorem dX7_cools_92 : decode cX7_cools 92 = .ok (.imul, 1) := by decide +kernel
theorem dX7_cools_93 : decode cX7_cools 93 = .ok (.iconst 0, 1) := by decide +kernel
theorem dX7_cools_94 : decode cX7_cools 94 = .ok (.bipush 99, 2) := by decide +kernel
theorem dX7_cools_96 : decode cX7_cools 96 = .ok (.invokestatic 209, 3) := by decide +kernel
theorem dX7_cools_99 : decode cX7_cools 99 = .ok (.ireturn, 1) := by decide +kernel
theorem dX7_cools_100 : decode cX7_cools 100 = .ok (.iload_n 2, 1) := by decide +kernel
theorem dX7_cools_101 : decode cX7_cools 101 = .ok (.ireturn, 1) := by decide +kernel
theorem dX7_far_0 : decode cX7_far 0 = .ok (.aload_n 0, 1) := by decide +kernel
theorem dX7_far_1 : decode cX7_far 1 = .ok (.iconst 2, 1) := by decide +kernel
theorem dX7_far_2 : decode cX7_far 2 = .ok (.iconst 0, 1) := by decide +kernel
theorem dX7_far_3 : decode cX7_far 3 = .ok (.iload_n 1, 1) := by decide +kernel
theorem dX7_far_4 : decode cX7_far 4 = .ok (.invokevirtual 206, 3) := by decide +kernel
theorem dX7_far_7 : decode cX7_far 7 = .ok (.iconst 0, 1) := by decide +kernel
theorem dX7_far_8 : decode cX7_far 8 = .ok (.bipush 40, 2) := by decide +kernel
theorem dX7_far_10 : decode cX7_far 10 = .ok (.invokestatic 209, 3) := by decide +kernel
theorem dX7_far_13 : decode cX7_far 13 = .ok (.istore_n 2, 1) := by decide +kernel
theorem dX7_far_14 : decode cX7_far 14 = .ok (.aload_n 0, 1) := by decide +kernel
theorem dX7_far_15 : decode cX7_far 15 = .ok (.getfield 200, 3) := by decide +kernel
theorem dX7_far_18 : decode cX7_far 18 = .ok (.tableswitch 81 2 5 #[30, 43, 53, 74], 30) := by decide +kernel
theorem dX7_far_48 : decode cX7_far 48 = .ok (.iload_n 2, 1) := by decide +kernel
theorem dX7_far_49 : decode cX7_far 49 = .ok (.aload_n 0, 1) := by decide +kernel
theorem dX7_far_50 : decode cX7_far 50 = .ok (.getfield 190, 3) := by decide +kernel
theorem dX7_far_53 : decode cX7_far 53 = .ok (.isub, 1) := by decide +kernel
theorem dX7_far_54 : decode cX7_far 54 = .ok (.iconst 0, 1) := by decide +kernel
theorem dX7_far_55 : decode cX7_far 55 = .ok (.bipush 40, 2) := by decide +kernel
theorem dX7_far_57 : decode cX7_far 57 = .ok (.invokestatic 209, 3) := by decide +kernel
theorem dX7_far_60 : decode cX7_far 60 = .ok (.ireturn, 1) := by decide +kernel
theorem dX7_far_61 : decode cX7_far 61 = .ok (.iload_n 2, 1) := by decide +kernel
theorem dX7_far_62 : decode cX7_far 62 = .ok (.iconst 5, 1) := by decide +kernel
theorem dX7_far_63 : decode cX7_far 63 = .ok (.iadd, 1) := by decide +kernel
theorem dX7_far_64 : decode cX7_far 64 = .ok (.iconst 0, 1) := by decide +kernel
theorem dX7_far_65 : decode cX7_far 65 = .ok (.bipush 40, 2) := by decide +kernel
theorem dX7_far_67 : decode cX7_far 67 = .ok (.invokestatic 209, 3) := by decide +kernel
theorem dX7_far_70 : decode cX7_far 70 = .ok (.ireturn, 1) := by decide +kernel
theorem dX7_far_71 : decode cX7_far 71 = .ok (.iload_n 1, 1) := by decide +kernel
theorem dX7_far_72 : decode cX7_far 72 = .ok (.ifCond .ne 7, 3) := by decide +kernel
theorem dX7_far_75 : decode cX7_far 75 = .ok (.iconst 0, 1) := by decide +kernel
theorem dX7_far_76 : decode cX7_far 76 = .ok (.goto 15, 3) := by decide +kernel
theorem dX7_far_79 : decode cX7_far 79 = .ok (.iload_n 2, 1) := by decide +kernel
theorem dX7_far_80 : decode cX7_far 80 = .ok (.aload_n 0, 1) := by decide +kernel
theorem dX7_far_81 : decode cX7_far 81 = .ok (.getfield 190, 3) := by decide +kernel
theorem dX7_far_84 : decode cX7_far 84 = .ok (.isub, 1) := by decide +kernel
theorem dX7_far_85 : decode cX7_far 85 = .ok (.iconst 0, 1) := by decide +kernel
theorem dX7_far_86 : decode cX7_far 86 = .ok (.bipush 40, 2) := by decide +kernel
theorem dX7_far_88 : decode cX7_far 88 = .ok (.invokestatic 209, 3) := by decide +kernel
theorem dX7_far_91 : decode cX7_far 91 = .ok (.ireturn, 1) := by decide +kernel
theorem dX7_far_92 : decode cX7_far 92 = .ok (.iconst 4, 1) := by decide +kernel
theorem dX7_far_93 : decode cX7_far 93 = .ok (.aload_n 0, 1) := by decide +kernel
theorem dX7_far_94 : decode cX7_far 94 = .ok (.getfield 190, 3) := by decide +kernel
theorem dX7_far_97 : decode cX7_far 97 = .ok (.imul, 1) := by decide +kernel
theorem dX7_far_98 : decode cX7_far 98 = .ok (.ireturn, 1) := by decide +kernel
theorem dX7_far_99 : decode cX7_far 99 = .ok (.iload_n 2, 1) := by decide +kernel
theorem dX7_far_100 : decode cX7_far 100 = .ok (.ireturn, 1) := by decide +kernel
theorem dX7_behindWord_0 : decode cX7_behindWord 0 = .ok (.iload_n 1, 1) := by decide +kernel
theorem dX7_behindWord_1 : decode cX7_behindWord 1 = .ok (.aload_n 0, 1) := by decide +kernel
theorem dX7_behindWord_2 : decode cX7_behindWord 2 = .ok (.iload_n 1, 1) := by decide +kernel
theorem dX7_behindWord_3 : decode cX7_behindWord 3 = .ok (.iload_n 2, 1) := by decide +kernel
theorem dX7_behindWord_4 : decode cX7_behindWord 4 = .ok (.invokevirtual 116, 3) := by decide +kernel
theorem dX7_behindWord_7 : decode cX7_behindWord 7 = .ok (.iadd, 1) := by decide +kernel
theorem dX7_behindWord_8 : decode cX7_behindWord 8 = .ok (.iconst 0, 1) := by decide +kernel
theorem dX7_behindWord_9 : decode cX7_behindWord 9 = .ok (.bipush 99, 2) := by decide +kernel
theorem dX7_behindWord_11 : decode cX7_behindWord 11 = .ok (.invokestatic 209, 3) := by decide +kernel
theorem dX7_behindWord_14 : decode cX7_behindWord 14 = .ok (.ireturn, 1) := by decide +kernel
theorem dX7_behindMinute_0 : decode cX7_behindMinute 0 = .ok (.iload_n 1, 1) := by decide +kernel
theorem dX7_behindMinute_1 : decode cX7_behindMinute 1 = .ok (.aload_n 0, 1) := by decide +kernel
theorem dX7_behindMinute_2 : decode cX7_behindMinute 2 = .ok (.iload_n 1, 1) := by decide +kernel
theorem dX7_behindMinute_3 : decode cX7_behindMinute 3 = .ok (.invokevirtual 110, 3) := by decide +kernel
theorem dX7_behindMinute_6 : decode cX7_behindMinute 6 = .ok (.isub, 1) := by decide +kernel
theorem dX7_behindMinute_7 : decode cX7_behindMinute 7 = .ok (.iconst 0, 1) := by decide +kernel
theorem dX7_behindMinute_8 : decode cX7_behindMinute 8 = .ok (.bipush 99, 2) := by decide +kernel
theorem dX7_behindMinute_10 : decode cX7_behindMinute 10 = .ok (.invokestatic 209, 3) := by decide +kernel
theorem dX7_behindMinute_13 : decode cX7_behindMinute 13 = .ok (.ireturn, 1) := by decide +kernel
theorem dX7_say_0 : decode cX7_say 0 = .ok (.aload_n 0, 1) := by decide +kernel
theorem dX7_say_1 : decode cX7_say 1 = .ok (.iload_n 1, 1) := by decide +kernel
theorem dX7_say_2 : decode cX7_say 2 = .ok (.invokevirtual 82, 3) := by decide +kernel
theorem dX7_say_5 : decode cX7_say 5 = .ok (.ifCond .eq 12, 3) := by decide +kernel
theorem dX7_say_8 : decode cX7_say 8 = .ok (.iload_n 2, 1) := by decide +kernel
theorem dX7_say_9 : decode cX7_say 9 = .ok (.iconst 0, 1) := by decide +kernel
theorem dX7_say_10 : decode cX7_say 10 = .ok (.iconst 5, 1) := by decide +kernel
theorem dX7_say_11 : decode cX7_say 11 = .ok (.invokestatic 78, 3) := by decide +kernel
theorem dX7_say_14 : decode cX7_say 14 = .ok (.ifCond .ne 6, 3) := by decide +kernel
theorem dX7_say_17 : decode cX7_say 17 = .ok (.bipush (-2), 2) := by decide +kernel
theorem dX7_say_19 : decode cX7_say 19 = .ok (.ireturn, 1) := by decide +kernel
theorem dX7_say_20 : decode cX7_say 20 = .ok (.aload_n 0, 1) := by decide +kernel
theorem dX7_say_21 : decode cX7_say 21 = .ok (.iload_n 1, 1) := by decide +kernel
theorem dX7_say_22 : decode cX7_say 22 = .ok (.invokevirtual 97, 3) := by decide +kernel
theorem dX7_say_25 : decode cX7_say 25 = .ok (.aload_n 0, 1) := by decide +kernel
theorem dX7_say_26 : decode cX7_say 26 = .ok (.getfield 7, 3) := by decide +kernel
theorem dX7_say_29 : decode cX7_say 29 = .ok (.bipush 40, 2) := by decide +kernel
theorem dX7_say_31 : decode cX7_say 31 = .ok (.iconst 4, 1) := by decide +kernel
theorem dX7_say_32 : decode cX7_say 32 = .ok (.iload_n 1, 1) := by decide +kernel
theorem dX7_say_33 : decode cX7_say 33 = .ok (.imul, 1) := by decide +kernel
theorem dX7_say_34 : decode cX7_say 34 = .ok (.iadd, 1) := by decide +kernel
theorem dX7_say_35 : decode cX7_say 35 = .ok (.iconst 2, 1) := by decide +kernel
theorem dX7_say_36 : decode cX7_say 36 = .ok (.iadd, 1) := by decide +kernel
theorem dX7_say_37 : decode cX7_say 37 = .ok (.aload_n 0, 1) := by decide +kernel
theorem dX7_say_38 : decode cX7_say 38 = .ok (.aload_n 0, 1) := by decide +kernel
theorem dX7_say_39 : decode cX7_say 39 = .ok (.iload_n 1, 1) := by decide +kernel
theorem dX7_say_40 : decode cX7_say 40 = .ok (.invokevirtual 101, 3) := by decide +kernel
theorem dX7_say_43 : decode cX7_say 43 = .ok (.iload_n 2, 1) := by decide +kernel
theorem dX7_say_44 : decode cX7_say 44 = .ok (.invokevirtual 212, 3) := by decide +kernel
theorem dX7_say_47 : decode cX7_say 47 = .ok (.iastore, 1) := by decide +kernel
theorem dX7_say_48 : decode cX7_say 48 = .ok (.aload_n 0, 1) := by decide +kernel
theorem dX7_say_49 : decode cX7_say 49 = .ok (.getfield 7, 3) := by decide +kernel
theorem dX7_say_52 : decode cX7_say 52 = .ok (.bipush 40, 2) := by decide +kernel
theorem dX7_say_54 : decode cX7_say 54 = .ok (.iconst 4, 1) := by decide +kernel
theorem dX7_say_55 : decode cX7_say 55 = .ok (.iload_n 1, 1) := by decide +kernel
theorem dX7_say_56 : decode cX7_say 56 = .ok (.imul, 1) := by decide +kernel
theorem dX7_say_57 : decode cX7_say 57 = .ok (.iadd, 1) := by decide +kernel
theorem dX7_say_58 : decode cX7_say 58 = .ok (.iconst 3, 1) := by decide +kernel
theorem dX7_say_59 : decode cX7_say 59 = .ok (.iadd, 1) := by decide +kernel
theorem dX7_say_60 : decode cX7_say 60 = .ok (.aload_n 0, 1) := by decide +kernel
theorem dX7_say_61 : decode cX7_say 61 = .ok (.getfield 7, 3) := by decide +kernel
theorem dX7_say_64 : decode cX7_say 64 = .ok (.bipush 40, 2) := by decide +kernel
theorem dX7_say_66 : decode cX7_say 66 = .ok (.iconst 4, 1) := by decide +kernel
theorem dX7_say_67 : decode cX7_say 67 = .ok (.iload_n 1, 1) := by decide +kernel
theorem dX7_say_68 : decode cX7_say 68 = .ok (.imul, 1) := by decide +kernel
theorem dX7_say_69 : decode cX7_say 69 = .ok (.iadd, 1) := by decide +kernel
theorem dX7_say_70 : decode cX7_say 70 = .ok (.iconst 3, 1) := by decide +kernel
theorem dX7_say_71 : decode cX7_say 71 = .ok (.iadd, 1) := by decide +kernel
theorem dX7_say_72 : decode cX7_say 72 = .ok (.iaload, 1) := by decide +kernel
theorem dX7_say_73 : decode cX7_say 73 = .ok (.iconst 1, 1) := by decide +kernel
theorem dX7_say_74 : decode cX7_say 74 = .ok (.iadd, 1) := by decide +kernel
theorem dX7_say_75 : decode cX7_say 75 = .ok (.iconst 0, 1) := by decide +kernel
theorem dX7_say_76 : decode cX7_say 76 = .ok (.sipush 9999, 3) := by decide +kernel
theorem dX7_say_79 : decode cX7_say 79 = .ok (.invokestatic 209, 3) := by decide +kernel
theorem dX7_say_82 : decode cX7_say 82 = .ok (.iastore, 1) := by decide +kernel
theorem dX7_say_83 : decode cX7_say 83 = .ok (.aload_n 0, 1) := by decide +kernel
theorem dX7_say_84 : decode cX7_say 84 = .ok (.iload_n 1, 1) := by decide +kernel
theorem dX7_say_85 : decode cX7_say 85 = .ok (.invokevirtual 101, 3) := by decide +kernel
theorem dX7_say_88 : decode cX7_say 88 = .ok (.ireturn, 1) := by decide +kernel
theorem dX7_quiet_0 : decode cX7_quiet 0 = .ok (.iload_n 1, 1) := by decide +kernel
theorem dX7_quiet_1 : decode cX7_quiet 1 = .ok (.iconst 0, 1) := by decide +kernel
theorem dX7_quiet_2 : decode cX7_quiet 2 = .ok (.bipush 99, 2) := by decide +kernel
theorem dX7_quiet_4 : decode cX7_quiet 4 = .ok (.invokestatic 78, 3) := by decide +kernel
theorem dX7_quiet_7 : decode cX7_quiet 7 = .ok (.ifCond .ne 6, 3) := by decide +kernel
theorem dX7_quiet_10 : decode cX7_quiet 10 = .ok (.bipush (-2), 2) := by decide +kernel
theorem dX7_quiet_12 : decode cX7_quiet 12 = .ok (.ireturn, 1) := by decide +kernel
theorem dX7_quiet_13 : decode cX7_quiet 13 = .ok (.iconst 0, 1) := by decide +kernel
theorem dX7_quiet_14 : decode cX7_quiet 14 = .ok (.istore_n 2, 1) := by decide +kernel
theorem dX7_quiet_15 : decode cX7_quiet 15 = .ok (.iload_n 2, 1) := by decide +kernel
theorem dX7_quiet_16 : decode cX7_quiet 16 = .ok (.iload_n 1, 1) := by decide +kernel
theorem dX7_quiet_17 : decode cX7_quiet 17 = .ok (.if_icmp .ge 52, 3) := by decide +kernel
theorem dX7_quiet_20 : decode cX7_quiet 20 = .ok (.iconst 0, 1) := by decide +kernel
theorem dX7_quiet_21 : decode cX7_quiet 21 = .ok (.istore_n 3, 1) := by decide +kernel
theorem dX7_quiet_22 : decode cX7_quiet 22 = .ok (.iload_n 3, 1) := by decide +kernel
theorem dX7_quiet_23 : decode cX7_quiet 23 = .ok (.aload_n 0, 1) := by decide +kernel
theorem dX7_quiet_24 : decode cX7_quiet 24 = .ok (.invokevirtual 94, 3) := by decide +kernel
theorem dX7_quiet_27 : decode cX7_quiet 27 = .ok (.if_icmp .ge 36, 3) := by decide +kernel
theorem dX7_quiet_30 : decode cX7_quiet 30 = .ok (.aload_n 0, 1) := by decide +kernel
theorem dX7_quiet_31 : decode cX7_quiet 31 = .ok (.iload_n 3, 1) := by decide +kernel
theorem dX7_quiet_32 : decode cX7_quiet 32 = .ok (.invokevirtual 97, 3) := by decide +kernel
theorem dX7_quiet_35 : decode cX7_quiet 35 = .ok (.aload_n 0, 1) := by decide +kernel
theorem dX7_quiet_36 : decode cX7_quiet 36 = .ok (.getfield 7, 3) := by decide +kernel
theorem dX7_quiet_39 : decode cX7_quiet 39 = .ok (.bipush 40, 2) := by decide +kernel
theorem dX7_quiet_41 : decode cX7_quiet 41 = .ok (.iconst 4, 1) := by decide +kernel
theorem dX7_quiet_42 : decode cX7_quiet 42 = .ok (.iload_n 3, 1) := by decide +kernel
theorem dX7_quiet_43 : decode cX7_quiet 43 = .ok (.imul, 1) := by decide +kernel
theorem dX7_quiet_44 : decode cX7_quiet 44 = .ok (.iadd, 1) := by decide +kernel
theorem dX7_quiet_45 : decode cX7_quiet 45 = .ok (.iconst 2, 1) := by decide +kernel
theorem dX7_quiet_46 : decode cX7_quiet 46 = .ok (.iadd, 1) := by decide +kernel
theorem dX7_quiet_47 : decode cX7_quiet 47 = .ok (.aload_n 0, 1) := by decide +kernel
theorem dX7_quiet_48 : decode cX7_quiet 48 = .ok (.aload_n 0, 1) := by decide +kernel
theorem dX7_quiet_49 : decode cX7_quiet 49 = .ok (.iload_n 3, 1) := by decide +kernel
theorem dX7_quiet_50 : decode cX7_quiet 50 = .ok (.invokevirtual 101, 3) := by decide +kernel
theorem dX7_quiet_53 : decode cX7_quiet 53 = .ok (.invokevirtual 215, 3) := by decide +kernel
theorem dX7_quiet_56 : decode cX7_quiet 56 = .ok (.iastore, 1) := by decide +kernel
theorem dX7_quiet_57 : decode cX7_quiet 57 = .ok (.iinc 3 1, 3) := by decide +kernel
theorem dX7_quiet_60 : decode cX7_quiet 60 = .ok (.goto (-38), 3) := by decide +kernel
theorem dX7_quiet_63 : decode cX7_quiet 63 = .ok (.iinc 2 1, 3) := by decide +kernel
theorem dX7_quiet_66 : decode cX7_quiet 66 = .ok (.goto (-51), 3) := by decide +kernel
theorem dX7_quiet_69 : decode cX7_quiet 69 = .ok (.iconst 0, 1) := by decide +kernel
theorem dX7_quiet_70 : decode cX7_quiet 70 = .ok (.istore_n 2, 1) := by decide +kernel
theorem dX7_quiet_71 : decode cX7_quiet 71 = .ok (.iconst 0, 1) := by decide +kernel
theorem dX7_quiet_72 : decode cX7_quiet 72 = .ok (.istore_n 3, 1) := by decide +kernel
theorem dX7_quiet_73 : decode cX7_quiet 73 = .ok (.iload_n 3, 1) := by decide +kernel
theorem dX7_quiet_74 : decode cX7_quiet 74 = .ok (.aload_n 0, 1) := by decide +kernel
theorem dX7_quiet_75 : decode cX7_quiet 75 = .ok (.invokevirtual 94, 3) := by decide +kernel
theorem dX7_quiet_78 : decode cX7_quiet 78 = .ok (.if_icmp .ge 25, 3) := by decide +kernel
theorem dX7_quiet_81 : decode cX7_quiet 81 = .ok (.iload_n 2, 1) := by decide +kernel
theorem dX7_quiet_82 : decode cX7_quiet 82 = .ok (.aload_n 0, 1) := by decide +kernel
theorem dX7_quiet_83 : decode cX7_quiet 83 = .ok (.iload_n 3, 1) := by decide +kernel
theorem dX7_quiet_84 : decode cX7_quiet 84 = .ok (.invokevirtual 101, 3) := by decide +kernel
theorem dX7_quiet_87 : decode cX7_quiet 87 = .ok (.ifCond .ne 7, 3) := by decide +kernel
theorem dX7_quiet_90 : decode cX7_quiet 90 = .ok (.iconst 1, 1) := by decide +kernel
theorem dX7_quiet_91 : decode cX7_quiet 91 = .ok (.goto 4, 3) := by decide +kernel
theorem dX7_quiet_94 : decode cX7_quiet 94 = .ok (.iconst 0, 1) := by decide +kernel
theorem dX7_quiet_95 : decode cX7_quiet 95 = .ok (.iadd, 1) := by decide +kernel
theorem dX7_quiet_96 : decode cX7_quiet 96 = .ok (.istore_n 2, 1) := by decide +kernel
theorem dX7_quiet_97 : decode cX7_quiet 97 = .ok (.iinc 3 1, 3) := by decide +kernel
theorem dX7_quiet_100 : decode cX7_quiet 100 = .ok (.goto (-27), 3) := by decide +kernel
theorem dX7_quiet_103 : decode cX7_quiet 103 = .ok (.iload_n 2, 1) := by decide +kernel
theorem dX7_quiet_104 : decode cX7_quiet 104 = .ok (.ireturn, 1) := by decide +kernel
theorem dX7_sees_0 : decode cX7_sees 0 = .ok (.aload_n 0, 1) := by decide +kernel
theorem dX7_sees_1 : decode cX7_sees 1 = .ok (.iload_n 1, 1) := by decide +kernel
theorem dX7_sees_2 : decode cX7_sees 2 = .ok (.invokevirtual 97, 3) := by decide +kernel
theorem dX7_sees_5 : decode cX7_sees 5 = .ok (.aload_n 0, 1) := by decide +kernel
theorem dX7_sees_6 : decode cX7_sees 6 = .ok (.aload_n 0, 1) := by decide +kernel
theorem dX7_sees_7 : decode cX7_sees 7 = .ok (.iload_n 1, 1) := by decide +kernel
theorem dX7_sees_8 : decode cX7_sees 8 = .ok (.invokevirtual 101, 3) := by decide +kernel
theorem dX7_sees_11 : decode cX7_sees 11 = .ok (.invokevirtual 113, 3) := by decide +kernel
theorem dX7_sees_14 : decode cX7_sees 14 = .ok (.ireturn, 1) := by decide +kernel
theorem dX7_furthest_0 : decode cX7_furthest 0 = .ok (.iconst (-1), 1) := by decide +kernel
theorem dX7_furthest_1 : decode cX7_furthest 1 = .ok (.istore_n 1, 1) := by decide +kernel
theorem dX7_furthest_2 : decode cX7_furthest 2 = .ok (.iconst (-1), 1) := by decide +kernel
theorem dX7_furthest_3 : decode cX7_furthest 3 = .ok (.istore_n 2, 1) := by decide +kernel
theorem dX7_furthest_4 : decode cX7_furthest 4 = .ok (.iconst 0, 1) := by decide +kernel
theorem dX7_furthest_5 : decode cX7_furthest 5 = .ok (.istore_n 3, 1) := by decide +kernel
theorem dX7_furthest_6 : decode cX7_furthest 6 = .ok (.iload_n 3, 1) := by decide +kernel
theorem dX7_furthest_7 : decode cX7_furthest 7 = .ok (.aload_n 0, 1) := by decide +kernel
theorem dX7_furthest_8 : decode cX7_furthest 8 = .ok (.invokevirtual 94, 3) := by decide +kernel
theorem dX7_furthest_11 : decode cX7_furthest 11 = .ok (.if_icmp .ge 41, 3) := by decide +kernel
theorem dX7_furthest_14 : decode cX7_furthest 14 = .ok (.aload_n 0, 1) := by decide +kernel
theorem dX7_furthest_15 : decode cX7_furthest 15 = .ok (.iload_n 3, 1) := by decide +kernel
theorem dX7_furthest_16 : decode cX7_furthest 16 = .ok (.invokevirtual 218, 3) := by decide +kernel
theorem dX7_furthest_19 : decode cX7_furthest 19 = .ok (.istore 4, 2) := by decide +kernel
theorem dX7_furthest_21 : decode cX7_furthest 21 = .ok (.iload 4, 2) := by decide +kernel
theorem dX7_furthest_23 : decode cX7_furthest 23 = .ok (.iload_n 2, 1) := by decide +kernel
theorem dX7_furthest_24 : decode cX7_furthest 24 = .ok (.if_icmp .le 7, 3) := by decide +kernel
theorem dX7_furthest_27 : decode cX7_furthest 27 = .ok (.iload_n 3, 1) := by decide +kernel
theorem dX7_furthest_28 : decode cX7_furthest 28 = .ok (.goto 4, 3) := by decide +kernel
theorem dX7_furthest_31 : decode cX7_furthest 31 = .ok (.iload_n 1, 1) := by decide +kernel
theorem dX7_furthest_32 : decode cX7_furthest 32 = .ok (.istore_n 1, 1) := by decide +kernel
theorem dX7_furthest_33 : decode cX7_furthest 33 = .ok (.iload 4, 2) := by decide +kernel
theorem dX7_furthest_35 : decode cX7_furthest 35 = .ok (.iload_n 2, 1) := by decide +kernel
theorem dX7_furthest_36 : decode cX7_furthest 36 = .ok (.if_icmp .le 8, 3) := by decide +kernel
theorem dX7_furthest_39 : decode cX7_furthest 39 = .ok (.iload 4, 2) := by decide +kernel
theorem dX7_furthest_41 : decode cX7_furthest 41 = .ok (.goto 4, 3) := by decide +kernel
theorem dX7_furthest_44 : decode cX7_furthest 44 = .ok (.iload_n 2, 1) := by decide +kernel
theorem dX7_furthest_45 : decode cX7_furthest 45 = .ok (.istore_n 2, 1) := by decide +kernel
theorem dX7_furthest_46 : decode cX7_furthest 46 = .ok (.iinc 3 1, 3) := by decide +kernel
theorem dX7_furthest_49 : decode cX7_furthest 49 = .ok (.goto (-43), 3) := by decide +kernel
theorem dX7_furthest_52 : decode cX7_furthest 52 = .ok (.iload_n 1, 1) := by decide +kernel
theorem dX7_furthest_53 : decode cX7_furthest 53 = .ok (.ireturn, 1) := by decide +kernel
theorem dX7_sight_0 : decode cX7_sight 0 = .ok (.aload_n 0, 1) := by decide +kernel
theorem dX7_sight_1 : decode cX7_sight 1 = .ok (.invokevirtual 94, 3) := by decide +kernel
theorem dX7_sight_4 : decode cX7_sight 4 = .ok (.ifCond .ne 7, 3) := by decide +kernel
theorem dX7_sight_7 : decode cX7_sight 7 = .ok (.iconst 0, 1) := by decide +kernel
theorem dX7_sight_8 : decode cX7_sight 8 = .ok (.goto 11, 3) := by decide +kernel
theorem dX7_sight_11 : decode cX7_sight 11 = .ok (.aload_n 0, 1) := by decide +kernel
theorem dX7_sight_12 : decode cX7_sight 12 = .ok (.aload_n 0, 1) := by decide +kernel
theorem dX7_sight_13 : decode cX7_sight 13 = .ok (.invokevirtual 221, 3) := by decide +kernel
theorem dX7_sight_16 : decode cX7_sight 16 = .ok (.invokevirtual 218, 3) := by decide +kernel
theorem dX7_sight_19 : decode cX7_sight 19 = .ok (.ireturn, 1) := by decide +kernel
theorem dX7_view_0 : decode cX7_view 0 = .ok (.iload_n 1, 1) := by decide +kernel
theorem dX7_view_1 : decode cX7_view 1 = .ok (.iconst 0, 1) := by decide +kernel
theorem dX7_view_2 : decode cX7_view 2 = .ok (.iconst 4, 1) := by decide +kernel
theorem dX7_view_3 : decode cX7_view 3 = .ok (.invokestatic 78, 3) := by decide +kernel
theorem dX7_view_6 : decode cX7_view 6 = .ok (.ifCond .ne 6, 3) := by decide +kernel
theorem dX7_view_9 : decode cX7_view 9 = .ok (.bipush (-2), 2) := by decide +kernel
theorem dX7_view_11 : decode cX7_view 11 = .ok (.ireturn, 1) := by decide +kernel
theorem dX7_view_12 : decode cX7_view 12 = .ok (.aload_n 0, 1) := by decide +kernel
theorem dX7_view_13 : decode cX7_view 13 = .ok (.invokevirtual 224, 3) := by decide +kernel
theorem dX7_view_16 : decode cX7_view 16 = .ok (.istore_n 2, 1) := by decide +kernel
theorem dX7_view_17 : decode cX7_view 17 = .ok (.iconst 0, 1) := by decide +kernel
theorem dX7_view_18 : decode cX7_view 18 = .ok (.istore_n 3, 1) := by decide +kernel
theorem dX7_view_19 : decode cX7_view 19 = .ok (.iconst 0, 1) := by decide +kernel
theorem dX7_view_20 : decode cX7_view 20 = .ok (.istore 4, 2) := by decide +kernel
theorem dX7_view_22 : decode cX7_view 22 = .ok (.iconst (-1), 1) := by decide +kernel
theorem dX7_view_23 : decode cX7_view 23 = .ok (.istore 5, 2) := by decide +kernel
theorem dX7_view_25 : decode cX7_view 25 = .ok (.iconst 0, 1) := by decide +kernel
theorem dX7_view_26 : decode cX7_view 26 = .ok (.istore 6, 2) := by decide +kernel
theorem dX7_view_28 : decode cX7_view 28 = .ok (.iload 6, 2) := by decide +kernel
theorem dX7_view_30 : decode cX7_view 30 = .ok (.bipush 40, 2) := by decide +kernel
theorem dX7_view_32 : decode cX7_view 32 = .ok (.if_icmp .ge 57, 3) := by decide +kernel
theorem dX7_view_35 : decode cX7_view 35 = .ok (.aload_n 0, 1) := by decide +kernel
theorem dX7_view_36 : decode cX7_view 36 = .ok (.getfield 7, 3) := by decide +kernel
theorem dX7_view_39 : decode cX7_view 39 = .ok (.iload 6, 2) := by decide +kernel
theorem dX7_view_41 : decode cX7_view 41 = .ok (.iaload, 1) := by decide +kernel
theorem dX7_view_42 : decode cX7_view 42 = .ok (.ifCond .eq 41, 3) := by decide +kernel
theorem dX7_view_45 : decode cX7_view 45 = .ok (.iload 6, 2) := by decide +kernel
theorem dX7_view_47 : decode cX7_view 47 = .ok (.istore 5, 2) := by decide +kernel
theorem dX7_view_49 : decode cX7_view 49 = .ok (.iload_n 3, 1) := by decide +kernel
theorem dX7_view_50 : decode cX7_view 50 = .ok (.iload 6, 2) := by decide +kernel
theorem dX7_view_52 : decode cX7_view 52 = .ok (.iload_n 2, 1) := by decide +kernel
theorem dX7_view_53 : decode cX7_view 53 = .ok (.if_icmp .ge 7, 3) := by decide +kernel
theorem dX7_view_56 : decode cX7_view 56 = .ok (.iconst 1, 1) := by decide +kernel
theorem dX7_view_57 : decode cX7_view 57 = .ok (.goto 4, 3) := by decide +kernel
theorem dX7_view_60 : decode cX7_view 60 = .ok (.iconst 0, 1) := by decide +kernel
theorem dX7_view_61 : decode cX7_view 61 = .ok (.iadd, 1) := by decide +kernel
theorem dX7_view_62 : decode cX7_view 62 = .ok (.istore_n 3, 1) := by decide +kernel
theorem dX7_view_63 : decode cX7_view 63 = .ok (.iload 6, 2) := by decide +kernel
theorem dX7_view_65 : decode cX7_view 65 = .ok (.iload_n 2, 1) := by decide +kernel
theorem dX7_view_66 : decode cX7_view 66 = .ok (.if_icmp .ge 13, 3) := by decide +kernel
theorem dX7_view_69 : decode cX7_view 69 = .ok (.aload_n 0, 1) := by decide +kernel
theorem dX7_view_70 : decode cX7_view 70 = .ok (.getfield 7, 3) := by decide +kernel
theorem dX7_view_73 : decode cX7_view 73 = .ok (.iload 6, 2) := by decide +kernel
theorem dX7_view_75 : decode cX7_view 75 = .ok (.iaload, 1) := by decide +kernel
theorem dX7_view_76 : decode cX7_view 76 = .ok (.goto 5, 3) := by decide +kernel
theorem dX7_view_79 : decode cX7_view 79 = .ok (.iload 4, 2) := by decide +kernel
theorem dX7_view_81 : decode cX7_view 81 = .ok (.istore 4, 2) := by decide +kernel
theorem dX7_view_83 : decode cX7_view 83 = .ok (.iinc 6 1, 3) := by decide +kernel
theorem dX7_view_86 : decode cX7_view 86 = .ok (.goto (-58), 3) := by decide +kernel
theorem dX7_view_89 : decode cX7_view 89 = .ok (.iload_n 1, 1) := by decide +kernel
theorem dX7_view_90 : decode cX7_view 90 = .ok (.ifCond .ne 7, 3) := by decide +kernel
theorem dX7_view_93 : decode cX7_view 93 = .ok (.iload_n 2, 1) := by decide +kernel
theorem dX7_view_94 : decode cX7_view 94 = .ok (.goto 51, 3) := by decide +kernel
theorem dX7_view_97 : decode cX7_view 97 = .ok (.iload_n 1, 1) := by decide +kernel
theorem dX7_view_98 : decode cX7_view 98 = .ok (.iconst 1, 1) := by decide +kernel
theorem dX7_view_99 : decode cX7_view 99 = .ok (.if_icmp .ne 7, 3) := by decide +kernel
theorem dX7_view_102 : decode cX7_view 102 = .ok (.iload_n 3, 1) := by decide +kernel
theorem dX7_view_103 : decode cX7_view 103 = .ok (.goto 42, 3) := by decide +kernel
theorem dX7_view_106 : decode cX7_view 106 = .ok (.iload_n 1, 1) := by decide +kernel
theorem dX7_view_107 : decode cX7_view 107 = .ok (.iconst 2, 1) := by decide +kernel
theorem dX7_view_108 : decode cX7_view 108 = .ok (.if_icmp .ne 8, 3) := by decide +kernel
theorem dX7_view_111 : decode cX7_view 111 = .ok (.iload 4, 2) := by decide +kernel
theorem dX7_view_113 : decode cX7_view 113 = .ok (.goto 32, 3) := by decide +kernel
theorem dX7_view_116 : decode cX7_view 116 = .ok (.iload_n 1, 1) := by decide +kernel
theorem dX7_view_117 : decode cX7_view 117 = .ok (.iconst 3, 1) := by decide +kernel
theorem dX7_view_118 : decode cX7_view 118 = .ok (.if_icmp .ne 10, 3) := by decide +kernel
theorem dX7_view_121 : decode cX7_view 121 = .ok (.aload_n 0, 1) := by decide +kernel
theorem dX7_view_122 : decode cX7_view 122 = .ok (.invokevirtual 221, 3) := by decide +kernel
theorem dX7_view_125 : decode cX7_view 125 = .ok (.goto 20, 3) := by decide +kernel
theorem dX7_view_128 : decode cX7_view 128 = .ok (.iload 5, 2) := by decide +kernel
theorem dX7_view_130 : decode cX7_view 130 = .ok (.iconst (-1), 1) := by decide +kernel
theorem dX7_view_131 : decode cX7_view 131 = .ok (.if_icmp .ne 7, 3) := by decide +kernel
theorem dX7_view_134 : decode cX7_view 134 = .ok (.iconst 0, 1) := by decide +kernel
theorem dX7_view_135 : decode cX7_view 135 = .ok (.goto 10, 3) := by decide +kernel
theorem dX7_view_138 : decode cX7_view 138 = .ok (.aload_n 0, 1) := by decide +kernel
theorem dX7_view_139 : decode cX7_view 139 = .ok (.iload 5, 2) := by decide +kernel
theorem dX7_view_141 : decode cX7_view 141 = .ok (.iconst 1, 1) := by decide +kernel
theorem dX7_view_142 : decode cX7_view 142 = .ok (.invokevirtual 227, 3) := by decide +kernel
theorem dX7_view_145 : decode cX7_view 145 = .ok (.ireturn, 1) := by decide +kernel
theorem dX7_bits_0 : decode cX7_bits 0 = .ok (.lconst 1, 1) := by decide +kernel
theorem dX7_bits_1 : decode cX7_bits 1 = .ok (.iload_n 0, 1) := by decide +kernel
theorem dX7_bits_2 : decode cX7_bits 2 = .ok (.lshl, 1) := by decide +kernel
theorem dX7_bits_3 : decode cX7_bits 3 = .ok (.lconst 1, 1) := by decide +kernel
theorem dX7_bits_4 : decode cX7_bits 4 = .ok (.lsub, 1) := by decide +kernel
theorem dX7_bits_5 : decode cX7_bits 5 = .ok (.lreturn, 1) := by decide +kernel
theorem dX7_clear_0 : decode cX7_clear 0 = .ok (.iload_n 1, 1) := by decide +kernel
theorem dX7_clear_1 : decode cX7_clear 1 = .ok (.iconst 0, 1) := by decide +kernel
theorem dX7_clear_2 : decode cX7_clear 2 = .ok (.iconst 2, 1) := by decide +kernel
theorem dX7_clear_3 : decode cX7_clear 3 = .ok (.invokestatic 78, 3) := by decide +kernel
theorem dX7_clear_6 : decode cX7_clear 6 = .ok (.ifCond .ne 7, 3) := by decide +kernel
theorem dX7_clear_9 : decode cX7_clear 9 = .ok (.ldc2_w 230, 3) := by decide +kernel
theorem dX7_clear_12 : decode cX7_clear 12 = .ok (.lreturn, 1) := by decide +kernel
theorem dX7_clear_13 : decode cX7_clear 13 = .ok (.iload_n 1, 1) := by decide +kernel
theorem dX7_clear_14 : decode cX7_clear 14 = .ok (.ifCond .ne 11, 3) := by decide +kernel
theorem dX7_clear_17 : decode cX7_clear 17 = .ok (.aload_n 0, 1) := by decide +kernel
theorem dX7_clear_18 : decode cX7_clear 18 = .ok (.invokevirtual 224, 3) := by decide +kernel
theorem dX7_clear_21 : decode cX7_clear 21 = .ok (.invokestatic 232, 3) := by decide +kernel
theorem dX7_clear_24 : decode cX7_clear 24 = .ok (.lreturn, 1) := by decide +kernel
theorem dX7_clear_25 : decode cX7_clear 25 = .ok (.iload_n 1, 1) := by decide +kernel
theorem dX7_clear_26 : decode cX7_clear 26 = .ok (.iconst 1, 1) := by decide +kernel
theorem dX7_clear_27 : decode cX7_clear 27 = .ok (.if_icmp .ne 17, 3) := by decide +kernel
theorem dX7_clear_30 : decode cX7_clear 30 = .ok (.bipush 40, 2) := by decide +kernel
theorem dX7_clear_32 : decode cX7_clear 32 = .ok (.invokestatic 232, 3) := by decide +kernel
theorem dX7_clear_35 : decode cX7_clear 35 = .ok (.aload_n 0, 1) := by decide +kernel
theorem dX7_clear_36 : decode cX7_clear 36 = .ok (.invokevirtual 236, 3) := by decide +kernel
theorem dX7_clear_39 : decode cX7_clear 39 = .ok (.invokestatic 232, 3) := by decide +kernel
theorem dX7_clear_42 : decode cX7_clear 42 = .ok (.lsub, 1) := by decide +kernel
theorem dX7_clear_43 : decode cX7_clear 43 = .ok (.lreturn, 1) := by decide +kernel
theorem dX7_clear_44 : decode cX7_clear 44 = .ok (.aload_n 0, 1) := by decide +kernel
theorem dX7_clear_45 : decode cX7_clear 45 = .ok (.invokevirtual 224, 3) := by decide +kernel
theorem dX7_clear_48 : decode cX7_clear 48 = .ok (.istore_n 2, 1) := by decide +kernel
theorem dX7_clear_49 : decode cX7_clear 49 = .ok (.lconst 0, 1) := by decide +kernel
theorem dX7_clear_50 : decode cX7_clear 50 = .ok (.lstore_n 3, 1) := by decide +kernel
theorem dX7_clear_51 : decode cX7_clear 51 = .ok (.iconst 0, 1) := by decide +kernel
theorem dX7_clear_52 : decode cX7_clear 52 = .ok (.istore 5, 2) := by decide +kernel
theorem dX7_clear_54 : decode cX7_clear 54 = .ok (.iload 5, 2) := by decide +kernel
theorem dX7_clear_56 : decode cX7_clear 56 = .ok (.iload_n 2, 1) := by decide +kernel
theorem dX7_clear_57 : decode cX7_clear 57 = .ok (.if_icmp .ge 30, 3) := by decide +kernel
theorem dX7_clear_60 : decode cX7_clear 60 = .ok (.lload_n 3, 1) := by decide +kernel
theorem dX7_clear_61 : decode cX7_clear 61 = .ok (.aload_n 0, 1) := by decide +kernel
theorem dX7_clear_62 : decode cX7_clear 62 = .ok (.getfield 7, 3) := by decide +kernel
theorem dX7_clear_65 : decode cX7_clear 65 = .ok (.iload 5, 2) := by decide +kernel
theorem dX7_clear_67 : decode cX7_clear 67 = .ok (.iaload, 1) := by decide +kernel
theorem dX7_clear_68 : decode cX7_clear 68 = .ok (.ifCond .eq 10, 3) := by decide +kernel
theorem dX7_clear_71 : decode cX7_clear 71 = .ok (.lconst 1, 1) := by decide +kernel
theorem dX7_clear_72 : decode cX7_clear 72 = .ok (.iload 5, 2) := by decide +kernel
theorem dX7_clear_74 : decode cX7_clear 74 = .ok (.lshl, 1) := by decide +kernel
theorem dX7_clear_75 : decode cX7_clear 75 = .ok (.goto 4, 3) := by decide +kernel
theorem dX7_clear_78 : decode cX7_clear 78 = .ok (.lconst 0, 1) := by decide +kernel
theorem dX7_clear_79 : decode cX7_clear 79 = .ok (.lor, 1) := by decide +kernel
theorem dX7_clear_80 : decode cX7_clear 80 = .ok (.lstore_n 3, 1) := by decide +kernel
theorem dX7_clear_81 : decode cX7_clear 81 = .ok (.iinc 5 1, 3) := by decide +kernel
theorem dX7_clear_84 : decode cX7_clear 84 = .ok (.goto (-30), 3) := by decide +kernel
theorem dX7_clear_87 : decode cX7_clear 87 = .ok (.lload_n 3, 1) := by decide +kernel
theorem dX7_clear_88 : decode cX7_clear 88 = .ok (.lreturn, 1) := by decide +kernel
theorem dX7_fill_0 : decode cX7_fill 0 = .ok (.aload_n 0, 1) := by decide +kernel
theorem dX7_fill_1 : decode cX7_fill 1 = .ok (.iload_n 1, 1) := by decide +kernel
theorem dX7_fill_2 : decode cX7_fill 2 = .ok (.invokevirtual 97, 3) := by decide +kernel
theorem dX7_fill_5 : decode cX7_fill 5 = .ok (.iconst 0, 1) := by decide +kernel
theorem dX7_fill_6 : decode cX7_fill 6 = .ok (.istore_n 2, 1) := by decide +kernel
theorem dX7_fill_7 : decode cX7_fill 7 = .ok (.iload_n 2, 1) := by decide +kernel
theorem dX7_fill_8 : decode cX7_fill 8 = .ok (.bipush 100, 2) := by decide +kernel
theorem dX7_fill_10 : decode cX7_fill 10 = .ok (.if_icmp .ge 51, 3) := by decide +kernel
theorem dX7_fill_13 : decode cX7_fill 13 = .ok (.aload_n 0, 1) := by decide +kernel
theorem dX7_fill_14 : decode cX7_fill 14 = .ok (.getfield 46, 3) := by decide +kernel
theorem dX7_fill_17 : decode cX7_fill 17 = .ok (.iload_n 2, 1) := by decide +kernel
theorem dX7_fill_18 : decode cX7_fill 18 = .ok (.aload_n 0, 1) := by decide +kernel
theorem dX7_fill_19 : decode cX7_fill 19 = .ok (.iload_n 2, 1) := by decide +kernel
theorem dX7_fill_20 : decode cX7_fill 20 = .ok (.invokevirtual 113, 3) := by decide +kernel
theorem dX7_fill_23 : decode cX7_fill 23 = .ok (.iastore, 1) := by decide +kernel
theorem dX7_fill_24 : decode cX7_fill 24 = .ok (.iconst 0, 1) := by decide +kernel
theorem dX7_fill_25 : decode cX7_fill 25 = .ok (.istore_n 3, 1) := by decide +kernel
theorem dX7_fill_26 : decode cX7_fill 26 = .ok (.iload_n 3, 1) := by decide +kernel
theorem dX7_fill_27 : decode cX7_fill 27 = .ok (.bipush 6, 2) := by decide +kernel
theorem dX7_fill_29 : decode cX7_fill 29 = .ok (.if_icmp .ge 26, 3) := by decide +kernel
theorem dX7_fill_32 : decode cX7_fill 32 = .ok (.aload_n 0, 1) := by decide +kernel
theorem dX7_fill_33 : decode cX7_fill 33 = .ok (.getfield 43, 3) := by decide +kernel
theorem dX7_fill_36 : decode cX7_fill 36 = .ok (.bipush 6, 2) := by decide +kernel
theorem dX7_fill_38 : decode cX7_fill 38 = .ok (.iload_n 2, 1) := by decide +kernel
theorem dX7_fill_39 : decode cX7_fill 39 = .ok (.imul, 1) := by decide +kernel
theorem dX7_fill_40 : decode cX7_fill 40 = .ok (.iload_n 3, 1) := by decide +kernel
theorem dX7_fill_41 : decode cX7_fill 41 = .ok (.iadd, 1) := by decide +kernel
theorem dX7_fill_42 : decode cX7_fill 42 = .ok (.aload_n 0, 1) := by decide +kernel
theorem dX7_fill_43 : decode cX7_fill 43 = .ok (.iload_n 2, 1) := by decide +kernel
theorem dX7_fill_44 : decode cX7_fill 44 = .ok (.iload_n 3, 1) := by decide +kernel
theorem dX7_fill_45 : decode cX7_fill 45 = .ok (.invokevirtual 212, 3) := by decide +kernel
theorem dX7_fill_48 : decode cX7_fill 48 = .ok (.iastore, 1) := by decide +kernel
theorem dX7_fill_49 : decode cX7_fill 49 = .ok (.iinc 3 1, 3) := by decide +kernel
theorem dX7_fill_52 : decode cX7_fill 52 = .ok (.goto (-26), 3) := by decide +kernel
theorem dX7_fill_55 : decode cX7_fill 55 = .ok (.iinc 2 1, 3) := by decide +kernel
theorem dX7_fill_58 : decode cX7_fill 58 = .ok (.goto (-51), 3) := by decide +kernel
theorem dX7_fill_61 : decode cX7_fill 61 = .ok (.return_, 1) := by decide +kernel
theorem dX7_fillWants_0 : decode cX7_fillWants 0 = .ok (.iconst 0, 1) := by decide +kernel
theorem dX7_fillWants_1 : decode cX7_fillWants 1 = .ok (.istore_n 2, 1) := by decide +kernel
theorem dX7_fillWants_2 : decode cX7_fillWants 2 = .ok (.iload_n 2, 1) := by decide +kernel
theorem dX7_fillWants_3 : decode cX7_fillWants 3 = .ok (.bipush 100, 2) := by decide +kernel
theorem dX7_fillWants_5 : decode cX7_fillWants 5 = .ok (.if_icmp .ge 42, 3) := by decide +kernel
theorem dX7_fillWants_8 : decode cX7_fillWants 8 = .ok (.aload_n 0, 1) := by decide +kernel
theorem dX7_fillWants_9 : decode cX7_fillWants 9 = .ok (.getfield 49, 3) := by decide +kernel
theorem dX7_fillWants_12 : decode cX7_fillWants 12 = .ok (.iload_n 2, 1) := by decide +kernel
theorem dX7_fillWants_13 : decode cX7_fillWants 13 = .ok (.iload_n 1, 1) := by decide +kernel
theorem dX7_fillWants_14 : decode cX7_fillWants 14 = .ok (.iconst (-1), 1) := by decide +kernel
theorem dX7_fillWants_15 : decode cX7_fillWants 15 = .ok (.if_icmp .ne 10, 3) := by decide +kernel
theorem dX7_fillWants_18 : decode cX7_fillWants 18 = .ok (.iload_n 2, 1) := by decide +kernel
theorem dX7_fillWants_19 : decode cX7_fillWants 19 = .ok (.ifCond .ne 20, 3) := by decide +kernel
theorem dX7_fillWants_22 : decode cX7_fillWants 22 = .ok (.goto 13, 3) := by decide +kernel
theorem dX7_fillWants_25 : decode cX7_fillWants 25 = .ok (.aload_n 0, 1) := by decide +kernel
theorem dX7_fillWants_26 : decode cX7_fillWants 26 = .ok (.getfield 46, 3) := by decide +kernel
theorem dX7_fillWants_29 : decode cX7_fillWants 29 = .ok (.iload_n 2, 1) := by decide +kernel
theorem dX7_fillWants_30 : decode cX7_fillWants 30 = .ok (.iaload, 1) := by decide +kernel
theorem dX7_fillWants_31 : decode cX7_fillWants 31 = .ok (.iload_n 1, 1) := by decide +kernel
theorem dX7_fillWants_32 : decode cX7_fillWants 32 = .ok (.if_icmp .lt 7, 3) := by decide +kernel
theorem dX7_fillWants_35 : decode cX7_fillWants 35 = .ok (.iconst 0, 1) := by decide +kernel
theorem dX7_fillWants_36 : decode cX7_fillWants 36 = .ok (.goto 4, 3) := by decide +kernel
theorem dX7_fillWants_39 : decode cX7_fillWants 39 = .ok (.iconst (-1), 1) := by decide +kernel
theorem dX7_fillWants_40 : decode cX7_fillWants 40 = .ok (.iastore, 1) := by decide +kernel
theorem dX7_fillWants_41 : decode cX7_fillWants 41 = .ok (.iinc 2 1, 3) := by decide +kernel
theorem dX7_fillWants_44 : decode cX7_fillWants 44 = .ok (.goto (-42), 3) := by decide +kernel
theorem dX7_fillWants_47 : decode cX7_fillWants 47 = .ok (.iconst 1, 1) := by decide +kernel
theorem dX7_fillWants_48 : decode cX7_fillWants 48 = .ok (.istore_n 2, 1) := by decide +kernel
theorem dX7_fillWants_49 : decode cX7_fillWants 49 = .ok (.iconst 1, 1) := by decide +kernel
theorem dX7_fillWants_50 : decode cX7_fillWants 50 = .ok (.istore_n 3, 1) := by decide +kernel
theorem dX7_fillWants_51 : decode cX7_fillWants 51 = .ok (.iload_n 2, 1) := by decide +kernel
theorem dX7_fillWants_52 : decode cX7_fillWants 52 = .ok (.ifCond .eq 88, 3) := by decide +kernel
theorem dX7_fillWants_55 : decode cX7_fillWants 55 = .ok (.iconst 0, 1) := by decide +kernel
theorem dX7_fillWants_56 : decode cX7_fillWants 56 = .ok (.istore_n 2, 1) := by decide +kernel
theorem dX7_fillWants_57 : decode cX7_fillWants 57 = .ok (.iconst 0, 1) := by decide +kernel
theorem dX7_fillWants_58 : decode cX7_fillWants 58 = .ok (.istore 4, 2) := by decide +kernel
theorem dX7_fillWants_60 : decode cX7_fillWants 60 = .ok (.iload 4, 2) := by decide +kernel
theorem dX7_fillWants_62 : decode cX7_fillWants 62 = .ok (.bipush 100, 2) := by decide +kernel
theorem dX7_fillWants_64 : decode cX7_fillWants 64 = .ok (.if_icmp .ge 70, 3) := by decide +kernel
theorem dX7_fillWants_67 : decode cX7_fillWants 67 = .ok (.iconst 0, 1) := by decide +kernel
theorem dX7_fillWants_68 : decode cX7_fillWants 68 = .ok (.istore 5, 2) := by decide +kernel
theorem dX7_fillWants_70 : decode cX7_fillWants 70 = .ok (.iload 5, 2) := by decide +kernel
theorem dX7_fillWants_72 : decode cX7_fillWants 72 = .ok (.bipush 6, 2) := by decide +kernel
theorem dX7_fillWants_74 : decode cX7_fillWants 74 = .ok (.if_icmp .ge 54, 3) := by decide +kernel
theorem dX7_fillWants_77 : decode cX7_fillWants 77 = .ok (.aload_n 0, 1) := by decide +kernel
theorem dX7_fillWants_78 : decode cX7_fillWants 78 = .ok (.getfield 49, 3) := by decide +kernel
theorem dX7_fillWants_81 : decode cX7_fillWants 81 = .ok (.iload 4, 2) := by decide +kernel
theorem dX7_fillWants_83 : decode cX7_fillWants 83 = .ok (.iaload, 1) := by decide +kernel
theorem dX7_fillWants_84 : decode cX7_fillWants 84 = .ok (.iconst (-1), 1) := by decide +kernel
theorem dX7_fillWants_85 : decode cX7_fillWants 85 = .ok (.if_icmp .ne 43, 3) := by decide +kernel
theorem dX7_fillWants_88 : decode cX7_fillWants 88 = .ok (.aload_n 0, 1) := by decide +kernel
theorem dX7_fillWants_89 : decode cX7_fillWants 89 = .ok (.getfield 49, 3) := by decide +kernel
theorem dX7_fillWants_92 : decode cX7_fillWants 92 = .ok (.aload_n 0, 1) := by decide +kernel
theorem dX7_fillWants_93 : decode cX7_fillWants 93 = .ok (.getfield 43, 3) := by decide +kernel
theorem dX7_fillWants_96 : decode cX7_fillWants 96 = .ok (.bipush 6, 2) := by decide +kernel
theorem dX7_fillWants_98 : decode cX7_fillWants 98 = .ok (.iload 4, 2) := by decide +kernel
theorem dX7_fillWants_100 : decode cX7_fillWants 100 = .ok (.imul, 1) := by decide +kernel
theorem dX7_fillWants_101 : decode cX7_fillWants 101 = .ok (.iload 5, 2) := by decide +kernel
theorem dX7_fillWants_103 : decode cX7_fillWants 103 = .ok (.iadd, 1) := by decide +kernel
theorem dX7_fillWants_104 : decode cX7_fillWants 104 = .ok (.iaload, 1) := by decide +kernel
theorem dX7_fillWants_105 : decode cX7_fillWants 105 = .ok (.iaload, 1) := by decide +kernel
theorem dX7_fillWants_106 : decode cX7_fillWants 106 = .ok (.iload_n 3, 1) := by decide +kernel
theorem dX7_fillWants_107 : decode cX7_fillWants 107 = .ok (.iconst 1, 1) := by decide +kernel
theorem dX7_fillWants_108 : decode cX7_fillWants 108 = .ok (.isub, 1) := by decide +kernel
theorem dX7_fillWants_109 : decode cX7_fillWants 109 = .ok (.if_icmp .ne 13, 3) := by decide +kernel
theorem dX7_fillWants_112 : decode cX7_fillWants 112 = .ok (.aload_n 0, 1) := by decide +kernel
theorem dX7_fillWants_113 : decode cX7_fillWants 113 = .ok (.getfield 49, 3) := by decide +kernel
theorem dX7_fillWants_116 : decode cX7_fillWants 116 = .ok (.iload 4, 2) := by decide +kernel
theorem dX7_fillWants_118 : decode cX7_fillWants 118 = .ok (.iload_n 3, 1) := by decide +kernel
theorem dX7_fillWants_119 : decode cX7_fillWants 119 = .ok (.iastore, 1) := by decide +kernel
theorem dX7_fillWants_120 : decode cX7_fillWants 120 = .ok (.iconst 1, 1) := by decide +kernel
theorem dX7_fillWants_121 : decode cX7_fillWants 121 = .ok (.istore_n 2, 1) := by decide +kernel
theorem dX7_fillWants_122 : decode cX7_fillWants 122 = .ok (.iinc 5 1, 3) := by decide +kernel
theorem dX7_fillWants_125 : decode cX7_fillWants 125 = .ok (.goto (-55), 3) := by decide +kernel
theorem dX7_fillWants_128 : decode cX7_fillWants 128 = .ok (.iinc 4 1, 3) := by decide +kernel
theorem dX7_fillWants_131 : decode cX7_fillWants 131 = .ok (.goto (-71), 3) := by decide +kernel
theorem dX7_fillWants_134 : decode cX7_fillWants 134 = .ok (.iinc 3 1, 3) := by decide +kernel
theorem dX7_fillWants_137 : decode cX7_fillWants 137 = .ok (.goto (-86), 3) := by decide +kernel
theorem dX7_fillWants_140 : decode cX7_fillWants 140 = .ok (.return_, 1) := by decide +kernel
theorem dX7_fewest_0 : decode cX7_fewest 0 = .ok (.aload_n 0, 1) := by decide +kernel
theorem dX7_fewest_1 : decode cX7_fewest 1 = .ok (.iload_n 1, 1) := by decide +kernel
theorem dX7_fewest_2 : decode cX7_fewest 2 = .ok (.invokevirtual 82, 3) := by decide +kernel
theorem dX7_fewest_5 : decode cX7_fewest 5 = .ok (.ifCond .eq 22, 3) := by decide +kernel
theorem dX7_fewest_8 : decode cX7_fewest 8 = .ok (.iload_n 2, 1) := by decide +kernel
theorem dX7_fewest_9 : decode cX7_fewest 9 = .ok (.iconst 0, 1) := by decide +kernel
theorem dX7_fewest_10 : decode cX7_fewest 10 = .ok (.bipush 40, 2) := by decide +kernel
theorem dX7_fewest_12 : decode cX7_fewest 12 = .ok (.invokestatic 78, 3) := by decide +kernel
theorem dX7_fewest_15 : decode cX7_fewest 15 = .ok (.ifCond .eq 12, 3) := by decide +kernel
theorem dX7_fewest_18 : decode cX7_fewest 18 = .ok (.iload_n 3, 1) := by decide +kernel
theorem dX7_fewest_19 : decode cX7_fewest 19 = .ok (.iconst 0, 1) := by decide +kernel
theorem dX7_fewest_20 : decode cX7_fewest 20 = .ok (.iconst 1, 1) := by decide +kernel
theorem dX7_fewest_21 : decode cX7_fewest 21 = .ok (.invokestatic 78, 3) := by decide +kernel
theorem dX7_fewest_24 : decode cX7_fewest 24 = .ok (.ifCond .ne 6, 3) := by decide +kernel
theorem dX7_fewest_27 : decode cX7_fewest 27 = .ok (.bipush (-2), 2) := by decide +kernel
theorem dX7_fewest_29 : decode cX7_fewest 29 = .ok (.ireturn, 1) := by decide +kernel
theorem dX7_fewest_30 : decode cX7_fewest 30 = .ok (.aload_n 0, 1) := by decide +kernel
theorem dX7_fewest_31 : decode cX7_fewest 31 = .ok (.iload_n 1, 1) := by decide +kernel
theorem dX7_fewest_32 : decode cX7_fewest 32 = .ok (.invokevirtual 239, 3) := by decide +kernel
theorem dX7_fewest_35 : decode cX7_fewest 35 = .ok (.aload_n 0, 1) := by decide +kernel
theorem dX7_fewest_36 : decode cX7_fewest 36 = .ok (.iload_n 2, 1) := by decide +kernel
theorem dX7_fewest_37 : decode cX7_fewest 37 = .ok (.invokevirtual 242, 3) := by decide +kernel
theorem dX7_fewest_40 : decode cX7_fewest 40 = .ok (.aload_n 0, 1) := by decide +kernel
theorem dX7_fewest_41 : decode cX7_fewest 41 = .ok (.iload_n 1, 1) := by decide +kernel
theorem dX7_fewest_42 : decode cX7_fewest 42 = .ok (.invokevirtual 101, 3) := by decide +kernel
theorem dX7_fewest_45 : decode cX7_fewest 45 = .ok (.istore 4, 2) := by decide +kernel
theorem dX7_fewest_47 : decode cX7_fewest 47 = .ok (.iload_n 3, 1) := by decide +kernel
theorem dX7_fewest_48 : decode cX7_fewest 48 = .ok (.ifCond .eq 26, 3) := by decide +kernel
theorem dX7_fewest_51 : decode cX7_fewest 51 = .ok (.aload_n 0, 1) := by decide +kernel
theorem dX7_fewest_52 : decode cX7_fewest 52 = .ok (.getfield 49, 3) := by decide +kernel
theorem dX7_fewest_55 : decode cX7_fewest 55 = .ok (.iload 4, 2) := by decide +kernel
theorem dX7_fewest_57 : decode cX7_fewest 57 = .ok (.iaload, 1) := by decide +kernel
theorem dX7_fewest_58 : decode cX7_fewest 58 = .ok (.iconst (-1), 1) := by decide +kernel
theorem dX7_fewest_59 : decode cX7_fewest 59 = .ok (.if_icmp .eq 15, 3) := by decide +kernel
theorem dX7_fewest_62 : decode cX7_fewest 62 = .ok (.aload_n 0, 1) := by decide +kernel
theorem dX7_fewest_63 : decode cX7_fewest 63 = .ok (.getfield 49, 3) := by decide +kernel
theorem dX7_fewest_66 : decode cX7_fewest 66 = .ok (.iload 4, 2) := by decide +kernel
theorem dX7_fewest_68 : decode cX7_fewest 68 = .ok (.iaload, 1) := by decide +kernel
theorem dX7_fewest_69 : decode cX7_fewest 69 = .ok (.bipush 9, 2) := by decide +kernel
theorem dX7_fewest_71 : decode cX7_fewest 71 = .ok (.if_icmp .le 19, 3) := by decide +kernel
theorem dX7_fewest_74 : decode cX7_fewest 74 = .ok (.iload_n 3, 1) := by decide +kernel
theorem dX7_fewest_75 : decode cX7_fewest 75 = .ok (.ifCond .ne 13, 3) := by decide +kernel
theorem dX7_fewest_78 : decode cX7_fewest 78 = .ok (.aload_n 0, 1) := by decide +kernel
theorem dX7_fewest_79 : decode cX7_fewest 79 = .ok (.getfield 49, 3) := by decide +kernel
theorem dX7_fewest_82 : decode cX7_fewest 82 = .ok (.iload 4, 2) := by decide +kernel
theorem dX7_fewest_84 : decode cX7_fewest 84 = .ok (.iaload, 1) := by decide +kernel
theorem dX7_fewest_85 : decode cX7_fewest 85 = .ok (.goto 4, 3) := by decide +kernel
theorem dX7_fewest_88 : decode cX7_fewest 88 = .ok (.iconst (-1), 1) := by decide +kernel
theorem dX7_fewest_89 : decode cX7_fewest 89 = .ok (.ireturn, 1) := by decide +kernel
theorem dX7_fewest_90 : decode cX7_fewest 90 = .ok (.iconst 0, 1) := by decide +kernel
theorem dX7_fewest_91 : decode cX7_fewest 91 = .ok (.istore 5, 2) := by decide +kernel
theorem dX7_fewest_93 : decode cX7_fewest 93 = .ok (.aload_n 0, 1) := by decide +kernel
theorem dX7_fewest_94 : decode cX7_fewest 94 = .ok (.getfield 49, 3) := by decide +kernel
theorem dX7_fewest_97 : decode cX7_fewest 97 = .ok (.iload 4, 2) := by decide +kernel
theorem dX7_fewest_99 : decode cX7_fewest 99 = .ok (.iaload, 1) := by decide +kernel
theorem dX7_fewest_100 : decode cX7_fewest 100 = .ok (.ifCond .le 72, 3) := by decide +kernel
theorem dX7_fewest_103 : decode cX7_fewest 103 = .ok (.iconst 0, 1) := by decide +kernel
theorem dX7_fewest_104 : decode cX7_fewest 104 = .ok (.istore 6, 2) := by decide +kernel
theorem dX7_fewest_106 : decode cX7_fewest 106 = .ok (.aload_n 0, 1) := by decide +kernel
theorem dX7_fewest_107 : decode cX7_fewest 107 = .ok (.getfield 49, 3) := by decide +kernel
theorem dX7_fewest_110 : decode cX7_fewest 110 = .ok (.aload_n 0, 1) := by decide +kernel
theorem dX7_fewest_111 : decode cX7_fewest 111 = .ok (.getfield 43, 3) := by decide +kernel
theorem dX7_fewest_114 : decode cX7_fewest 114 = .ok (.bipush 6, 2) := by decide +kernel
theorem dX7_fewest_116 : decode cX7_fewest 116 = .ok (.iload 4, 2) := by decide +kernel
theorem dX7_fewest_118 : decode cX7_fewest 118 = .ok (.imul, 1) := by decide +kernel
theorem dX7_fewest_119 : decode cX7_fewest 119 = .ok (.iload 6, 2) := by decide +kernel
theorem dX7_fewest_121 : decode cX7_fewest 121 = .ok (.iadd, 1) := by decide +kernel
theorem dX7_fewest_122 : decode cX7_fewest 122 = .ok (.iaload, 1) := by decide +kernel
theorem dX7_fewest_123 : decode cX7_fewest 123 = .ok (.iaload, 1) := by decide +kernel
theorem dX7_fewest_124 : decode cX7_fewest 124 = .ok (.aload_n 0, 1) := by decide +kernel
theorem dX7_fewest_125 : decode cX7_fewest 125 = .ok (.getfield 49, 3) := by decide +kernel
theorem dX7_fewest_128 : decode cX7_fewest 128 = .ok (.iload 4, 2) := by decide +kernel
theorem dX7_fewest_130 : decode cX7_fewest 130 = .ok (.iaload, 1) := by decide +kernel
theorem dX7_fewest_131 : decode cX7_fewest 131 = .ok (.iconst 1, 1) := by decide +kernel
theorem dX7_fewest_132 : decode cX7_fewest 132 = .ok (.isub, 1) := by decide +kernel
theorem dX7_fewest_133 : decode cX7_fewest 133 = .ok (.if_icmp .eq 9, 3) := by decide +kernel
theorem dX7_fewest_136 : decode cX7_fewest 136 = .ok (.iinc 6 1, 3) := by decide +kernel
theorem dX7_fewest_139 : decode cX7_fewest 139 = .ok (.goto (-33), 3) := by decide +kernel
theorem dX7_fewest_142 : decode cX7_fewest 142 = .ok (.bipush 10, 2) := by decide +kernel
theorem dX7_fewest_144 : decode cX7_fewest 144 = .ok (.iload 5, 2) := by decide +kernel
theorem dX7_fewest_146 : decode cX7_fewest 146 = .ok (.imul, 1) := by decide +kernel
theorem dX7_fewest_147 : decode cX7_fewest 147 = .ok (.iload 6, 2) := by decide +kernel
theorem dX7_fewest_149 : decode cX7_fewest 149 = .ok (.iadd, 1) := by decide +kernel
theorem dX7_fewest_150 : decode cX7_fewest 150 = .ok (.iconst 1, 1) := by decide +kernel
theorem dX7_fewest_151 : decode cX7_fewest 151 = .ok (.iadd, 1) := by decide +kernel
theorem dX7_fewest_152 : decode cX7_fewest 152 = .ok (.istore 5, 2) := by decide +kernel
theorem dX7_fewest_154 : decode cX7_fewest 154 = .ok (.aload_n 0, 1) := by decide +kernel
theorem dX7_fewest_155 : decode cX7_fewest 155 = .ok (.getfield 43, 3) := by decide +kernel
theorem dX7_fewest_158 : decode cX7_fewest 158 = .ok (.bipush 6, 2) := by decide +kernel
theorem dX7_fewest_160 : decode cX7_fewest 160 = .ok (.iload 4, 2) := by decide +kernel
theorem dX7_fewest_162 : decode cX7_fewest 162 = .ok (.imul, 1) := by decide +kernel
theorem dX7_fewest_163 : decode cX7_fewest 163 = .ok (.iload 6, 2) := by decide +kernel
theorem dX7_fewest_165 : decode cX7_fewest 165 = .ok (.iadd, 1) := by decide +kernel
theorem dX7_fewest_166 : decode cX7_fewest 166 = .ok (.iaload, 1) := by decide +kernel
theorem dX7_fewest_167 : decode cX7_fewest 167 = .ok (.istore 4, 2) := by decide +kernel
theorem dX7_fewest_169 : decode cX7_fewest 169 = .ok (.goto (-76), 3) := by decide +kernel
theorem dX7_fewest_172 : decode cX7_fewest 172 = .ok (.iload 5, 2) := by decide +kernel
theorem dX7_fewest_174 : decode cX7_fewest 174 = .ok (.ireturn, 1) := by decide +kernel
theorem dX7_reach_0 : decode cX7_reach 0 = .ok (.iconst 0, 1) := by decide +kernel
theorem dX7_reach_1 : decode cX7_reach 1 = .ok (.istore_n 2, 1) := by decide +kernel
theorem dX7_reach_2 : decode cX7_reach 2 = .ok (.iload_n 2, 1) := by decide +kernel
theorem dX7_reach_3 : decode cX7_reach 3 = .ok (.bipush 100, 2) := by decide +kernel
theorem dX7_reach_5 : decode cX7_reach 5 = .ok (.if_icmp .ge 25, 3) := by decide +kernel
theorem dX7_reach_8 : decode cX7_reach 8 = .ok (.aload_n 0, 1) := by decide +kernel
theorem dX7_reach_9 : decode cX7_reach 9 = .ok (.getfield 52, 3) := by decide +kernel
theorem dX7_reach_12 : decode cX7_reach 12 = .ok (.iload_n 2, 1) := by decide +kernel
theorem dX7_reach_13 : decode cX7_reach 13 = .ok (.iload_n 2, 1) := by decide +kernel
theorem dX7_reach_14 : decode cX7_reach 14 = .ok (.iload_n 1, 1) := by decide +kernel
theorem dX7_reach_15 : decode cX7_reach 15 = .ok (.if_icmp .ne 7, 3) := by decide +kernel
theorem dX7_reach_18 : decode cX7_reach 18 = .ok (.iconst 1, 1) := by decide +kernel
theorem dX7_reach_19 : decode cX7_reach 19 = .ok (.goto 4, 3) := by decide +kernel
theorem dX7_reach_22 : decode cX7_reach 22 = .ok (.iconst 0, 1) := by decide +kernel
theorem dX7_reach_23 : decode cX7_reach 23 = .ok (.bastore, 1) := by decide +kernel
theorem dX7_reach_24 : decode cX7_reach 24 = .ok (.iinc 2 1, 3) := by decide +kernel
theorem dX7_reach_27 : decode cX7_reach 27 = .ok (.goto (-25), 3) := by decide +kernel
theorem dX7_reach_30 : decode cX7_reach 30 = .ok (.iconst 1, 1) := by decide +kernel
theorem dX7_reach_31 : decode cX7_reach 31 = .ok (.istore_n 2, 1) := by decide +kernel
theorem dX7_reach_32 : decode cX7_reach 32 = .ok (.iload_n 2, 1) := by decide +kernel
theorem dX7_reach_33 : decode cX7_reach 33 = .ok (.ifCond .eq 89, 3) := by decide +kernel
theorem dX7_reach_36 : decode cX7_reach 36 = .ok (.iconst 0, 1) := by decide +kernel
theorem dX7_reach_37 : decode cX7_reach 37 = .ok (.istore_n 2, 1) := by decide +kernel
theorem dX7_reach_38 : decode cX7_reach 38 = .ok (.iconst 0, 1) := by decide +kernel
theorem dX7_reach_39 : decode cX7_reach 39 = .ok (.istore_n 3, 1) := by decide +kernel
theorem dX7_reach_40 : decode cX7_reach 40 = .ok (.iload_n 3, 1) := by decide +kernel
theorem dX7_reach_41 : decode cX7_reach 41 = .ok (.bipush 100, 2) := by decide +kernel
theorem dX7_reach_43 : decode cX7_reach 43 = .ok (.if_icmp .ge 76, 3) := by decide +kernel
theorem dX7_reach_46 : decode cX7_reach 46 = .ok (.iconst 0, 1) := by decide +kernel
theorem dX7_reach_47 : decode cX7_reach 47 = .ok (.istore 4, 2) := by decide +kernel
theorem dX7_reach_49 : decode cX7_reach 49 = .ok (.iload 4, 2) := by decide +kernel
theorem dX7_reach_51 : decode cX7_reach 51 = .ok (.bipush 6, 2) := by decide +kernel
theorem dX7_reach_53 : decode cX7_reach 53 = .ok (.if_icmp .ge 60, 3) := by decide +kernel
theorem dX7_reach_56 : decode cX7_reach 56 = .ok (.aload_n 0, 1) := by decide +kernel
theorem dX7_reach_57 : decode cX7_reach 57 = .ok (.getfield 52, 3) := by decide +kernel
theorem dX7_reach_60 : decode cX7_reach 60 = .ok (.iload_n 3, 1) := by decide +kernel
theorem dX7_reach_61 : decode cX7_reach 61 = .ok (.baload, 1) := by decide +kernel
theorem dX7_reach_62 : decode cX7_reach 62 = .ok (.ifCond .eq 51, 3) := by decide +kernel
theorem dX7_reach_65 : decode cX7_reach 65 = .ok (.aload_n 0, 1) := by decide +kernel
theorem dX7_reach_66 : decode cX7_reach 66 = .ok (.getfield 43, 3) := by decide +kernel
theorem dX7_reach_69 : decode cX7_reach 69 = .ok (.bipush 6, 2) := by decide +kernel
theorem dX7_reach_71 : decode cX7_reach 71 = .ok (.iload_n 3, 1) := by decide +kernel
theorem dX7_reach_72 : decode cX7_reach 72 = .ok (.imul, 1) := by decide +kernel
theorem dX7_reach_73 : decode cX7_reach 73 = .ok (.iload 4, 2) := by decide +kernel
theorem dX7_reach_75 : decode cX7_reach 75 = .ok (.iadd, 1) := by decide +kernel
theorem dX7_reach_76 : decode cX7_reach 76 = .ok (.iaload, 1) := by decide +kernel
theorem dX7_reach_77 : decode cX7_reach 77 = .ok (.istore 5, 2) := by decide +kernel
theorem dX7_reach_79 : decode cX7_reach 79 = .ok (.iload_n 2, 1) := by decide +kernel
theorem dX7_reach_80 : decode cX7_reach 80 = .ok (.ifCond .ne 13, 3) := by decide +kernel
theorem dX7_reach_83 : decode cX7_reach 83 = .ok (.aload_n 0, 1) := by decide +kernel
theorem dX7_reach_84 : decode cX7_reach 84 = .ok (.getfield 52, 3) := by decide +kernel
theorem dX7_reach_87 : decode cX7_reach 87 = .ok (.iload 5, 2) := by decide +kernel
theorem dX7_reach_89 : decode cX7_reach 89 = .ok (.baload, 1) := by decide +kernel
theorem dX7_reach_90 : decode cX7_reach 90 = .ok (.ifCond .ne 7, 3) := by decide +kernel
theorem dX7_reach_93 : decode cX7_reach 93 = .ok (.iconst 1, 1) := by decide +kernel
theorem dX7_reach_94 : decode cX7_reach 94 = .ok (.goto 4, 3) := by decide +kernel
theorem dX7_reach_97 : decode cX7_reach 97 = .ok (.iconst 0, 1) := by decide +kernel
theorem dX7_reach_98 : decode cX7_reach 98 = .ok (.istore_n 2, 1) := by decide +kernel
theorem dX7_reach_99 : decode cX7_reach 99 = .ok (.aload_n 0, 1) := by decide +kernel
theorem dX7_reach_100 : decode cX7_reach 100 = .ok (.getfield 52, 3) := by decide +kernel
theorem dX7_reach_103 : decode cX7_reach 103 = .ok (.iload 5, 2) := by decide +kernel
theorem dX7_reach_105 : decode cX7_reach 105 = .ok (.iconst 1, 1) := by decide +kernel
theorem dX7_reach_106 : decode cX7_reach 106 = .ok (.bastore, 1) := by decide +kernel
theorem dX7_reach_107 : decode cX7_reach 107 = .ok (.iinc 4 1, 3) := by decide +kernel
theorem dX7_reach_110 : decode cX7_reach 110 = .ok (.goto (-61), 3) := by decide +kernel
theorem dX7_reach_113 : decode cX7_reach 113 = .ok (.iinc 3 1, 3) := by decide +kernel
theorem dX7_reach_116 : decode cX7_reach 116 = .ok (.goto (-76), 3) := by decide +kernel
theorem dX7_reach_119 : decode cX7_reach 119 = .ok (.goto (-87), 3) := by decide +kernel
theorem dX7_reach_122 : decode cX7_reach 122 = .ok (.return_, 1) := by decide +kernel
theorem dX7_farthestEver_0 : decode cX7_farthestEver 0 = .ok (.iconst 0, 1) := by decide +kernel
theorem dX7_farthestEver_1 : decode cX7_farthestEver 1 = .ok (.istore_n 1, 1) := by decide +kernel
theorem dX7_farthestEver_2 : decode cX7_farthestEver 2 = .ok (.iconst 0, 1) := by decide +kernel
theorem dX7_farthestEver_3 : decode cX7_farthestEver 3 = .ok (.istore_n 2, 1) := by decide +kernel
theorem dX7_farthestEver_4 : decode cX7_farthestEver 4 = .ok (.iload_n 2, 1) := by decide +kernel
theorem dX7_farthestEver_5 : decode cX7_farthestEver 5 = .ok (.aload_n 0, 1) := by decide +kernel
theorem dX7_farthestEver_6 : decode cX7_farthestEver 6 = .ok (.invokevirtual 94, 3) := by decide +kernel
theorem dX7_farthestEver_9 : decode cX7_farthestEver 9 = .ok (.if_icmp .ge 67, 3) := by decide +kernel
theorem dX7_farthestEver_12 : decode cX7_farthestEver 12 = .ok (.aload_n 0, 1) := by decide +kernel
theorem dX7_farthestEver_13 : decode cX7_farthestEver 13 = .ok (.iload_n 2, 1) := by decide +kernel
theorem dX7_farthestEver_14 : decode cX7_farthestEver 14 = .ok (.invokevirtual 239, 3) := by decide +kernel
theorem dX7_farthestEver_17 : decode cX7_farthestEver 17 = .ok (.aload_n 0, 1) := by decide +kernel
theorem dX7_farthestEver_18 : decode cX7_farthestEver 18 = .ok (.aload_n 0, 1) := by decide +kernel
theorem dX7_farthestEver_19 : decode cX7_farthestEver 19 = .ok (.iload_n 2, 1) := by decide +kernel
theorem dX7_farthestEver_20 : decode cX7_farthestEver 20 = .ok (.invokevirtual 101, 3) := by decide +kernel
theorem dX7_farthestEver_23 : decode cX7_farthestEver 23 = .ok (.invokevirtual 245, 3) := by decide +kernel
theorem dX7_farthestEver_26 : decode cX7_farthestEver 26 = .ok (.iconst 0, 1) := by decide +kernel
theorem dX7_farthestEver_27 : decode cX7_farthestEver 27 = .ok (.istore_n 3, 1) := by decide +kernel
theorem dX7_farthestEver_28 : decode cX7_farthestEver 28 = .ok (.iload_n 3, 1) := by decide +kernel
theorem dX7_farthestEver_29 : decode cX7_farthestEver 29 = .ok (.bipush 100, 2) := by decide +kernel
theorem dX7_farthestEver_31 : decode cX7_farthestEver 31 = .ok (.if_icmp .ge 39, 3) := by decide +kernel
theorem dX7_farthestEver_34 : decode cX7_farthestEver 34 = .ok (.aload_n 0, 1) := by decide +kernel
theorem dX7_farthestEver_35 : decode cX7_farthestEver 35 = .ok (.getfield 52, 3) := by decide +kernel
theorem dX7_farthestEver_38 : decode cX7_farthestEver 38 = .ok (.iload_n 3, 1) := by decide +kernel
theorem dX7_farthestEver_39 : decode cX7_farthestEver 39 = .ok (.baload, 1) := by decide +kernel
theorem dX7_farthestEver_40 : decode cX7_farthestEver 40 = .ok (.ifCond .eq 22, 3) := by decide +kernel
theorem dX7_farthestEver_43 : decode cX7_farthestEver 43 = .ok (.aload_n 0, 1) := by decide +kernel
theorem dX7_farthestEver_44 : decode cX7_farthestEver 44 = .ok (.getfield 46, 3) := by decide +kernel
theorem dX7_farthestEver_47 : decode cX7_farthestEver 47 = .ok (.iload_n 3, 1) := by decide +kernel
theorem dX7_farthestEver_48 : decode cX7_farthestEver 48 = .ok (.iaload, 1) := by decide +kernel
theorem dX7_farthestEver_49 : decode cX7_farthestEver 49 = .ok (.iload_n 1, 1) := by decide +kernel
theorem dX7_farthestEver_50 : decode cX7_farthestEver 50 = .ok (.if_icmp .le 12, 3) := by decide +kernel
theorem dX7_farthestEver_53 : decode cX7_farthestEver 53 = .ok (.aload_n 0, 1) := by decide +kernel
theorem dX7_farthestEver_54 : decode cX7_farthestEver 54 = .ok (.getfield 46, 3) := by decide +kernel
theorem dX7_farthestEver_57 : decode cX7_farthestEver 57 = .ok (.iload_n 3, 1) := by decide +kernel
theorem dX7_farthestEver_58 : decode cX7_farthestEver 58 = .ok (.iaload, 1) := by decide +kernel
theorem dX7_farthestEver_59 : decode cX7_farthestEver 59 = .ok (.goto 4, 3) := by decide +kernel
theorem dX7_farthestEver_62 : decode cX7_farthestEver 62 = .ok (.iload_n 1, 1) := by decide +kernel
theorem dX7_farthestEver_63 : decode cX7_farthestEver 63 = .ok (.istore_n 1, 1) := by decide +kernel
theorem dX7_farthestEver_64 : decode cX7_farthestEver 64 = .ok (.iinc 3 1, 3) := by decide +kernel
theorem dX7_farthestEver_67 : decode cX7_farthestEver 67 = .ok (.goto (-39), 3) := by decide +kernel
theorem dX7_farthestEver_70 : decode cX7_farthestEver 70 = .ok (.iinc 2 1, 3) := by decide +kernel
theorem dX7_farthestEver_73 : decode cX7_farthestEver 73 = .ok (.goto (-69), 3) := by decide +kernel
theorem dX7_farthestEver_76 : decode cX7_farthestEver 76 = .ok (.iload_n 1, 1) := by decide +kernel
theorem dX7_farthestEver_77 : decode cX7_farthestEver 77 = .ok (.ireturn, 1) := by decide +kernel
theorem dX7_words_0 : decode cX7_words 0 = .ok (.aload_n 0, 1) := by decide +kernel
theorem dX7_words_1 : decode cX7_words 1 = .ok (.iload_n 1, 1) := by decide +kernel
theorem dX7_words_2 : decode cX7_words 2 = .ok (.invokevirtual 82, 3) := by decide +kernel
theorem dX7_words_5 : decode cX7_words 5 = .ok (.ifCond .eq 12, 3) := by decide +kernel
theorem dX7_words_8 : decode cX7_words 8 = .ok (.iload_n 2, 1) := by decide +kernel
theorem dX7_words_9 : decode cX7_words 9 = .ok (.iconst 0, 1) := by decide +kernel
theorem dX7_words_10 : decode cX7_words 10 = .ok (.iconst 5, 1) := by decide +kernel
theorem dX7_words_11 : decode cX7_words 11 = .ok (.invokestatic 78, 3) := by decide +kernel
theorem dX7_words_14 : decode cX7_words 14 = .ok (.ifCond .ne 6, 3) := by decide +kernel
theorem dX7_words_17 : decode cX7_words 17 = .ok (.bipush (-2), 2) := by decide +kernel
theorem dX7_words_19 : decode cX7_words 19 = .ok (.ireturn, 1) := by decide +kernel
theorem dX7_words_20 : decode cX7_words 20 = .ok (.aload_n 0, 1) := by decide +kernel
theorem dX7_words_21 : decode cX7_words 21 = .ok (.iload_n 1, 1) := by decide +kernel
theorem dX7_words_22 : decode cX7_words 22 = .ok (.invokevirtual 239, 3) := by decide +kernel
theorem dX7_words_25 : decode cX7_words 25 = .ok (.aload_n 0, 1) := by decide +kernel
theorem dX7_words_26 : decode cX7_words 26 = .ok (.iload_n 1, 1) := by decide +kernel
theorem dX7_words_27 : decode cX7_words 27 = .ok (.invokevirtual 101, 3) := by decide +kernel
theorem dX7_words_30 : decode cX7_words 30 = .ok (.istore_n 3, 1) := by decide +kernel
theorem dX7_words_31 : decode cX7_words 31 = .ok (.iload_n 2, 1) := by decide +kernel
theorem dX7_words_32 : decode cX7_words 32 = .ok (.ifCond .ne 15, 3) := by decide +kernel
theorem dX7_words_35 : decode cX7_words 35 = .ok (.aload_n 0, 1) := by decide +kernel
theorem dX7_words_36 : decode cX7_words 36 = .ok (.iconst (-1), 1) := by decide +kernel
theorem dX7_words_37 : decode cX7_words 37 = .ok (.invokevirtual 242, 3) := by decide +kernel
theorem dX7_words_40 : decode cX7_words 40 = .ok (.aload_n 0, 1) := by decide +kernel
theorem dX7_words_41 : decode cX7_words 41 = .ok (.getfield 49, 3) := by decide +kernel
theorem dX7_words_44 : decode cX7_words 44 = .ok (.iload_n 3, 1) := by decide +kernel
theorem dX7_words_45 : decode cX7_words 45 = .ok (.iaload, 1) := by decide +kernel
theorem dX7_words_46 : decode cX7_words 46 = .ok (.ireturn, 1) := by decide +kernel
theorem dX7_words_47 : decode cX7_words 47 = .ok (.iload_n 2, 1) := by decide +kernel
theorem dX7_words_48 : decode cX7_words 48 = .ok (.iconst 3, 1) := by decide +kernel
theorem dX7_words_49 : decode cX7_words 49 = .ok (.if_icmp .le 96, 3) := by decide +kernel
theorem dX7_words_52 : decode cX7_words 52 = .ok (.iconst 0, 1) := by decide +kernel
theorem dX7_words_53 : decode cX7_words 53 = .ok (.istore 4, 2) := by decide +kernel
theorem dX7_words_55 : decode cX7_words 55 = .ok (.iconst 1, 1) := by decide +kernel
theorem dX7_words_56 : decode cX7_words 56 = .ok (.istore 5, 2) := by decide +kernel
theorem dX7_words_58 : decode cX7_words 58 = .ok (.iload 5, 2) := by decide +kernel
theorem dX7_words_60 : decode cX7_words 60 = .ok (.bipush 6, 2) := by decide +kernel
theorem dX7_words_62 : decode cX7_words 62 = .ok (.if_icmp .ge 55, 3) := by decide +kernel
theorem dX7_words_65 : decode cX7_words 65 = .ok (.aload_n 0, 1) := by decide +kernel
theorem dX7_words_66 : decode cX7_words 66 = .ok (.getfield 46, 3) := by decide +kernel
theorem dX7_words_69 : decode cX7_words 69 = .ok (.aload_n 0, 1) := by decide +kernel
theorem dX7_words_70 : decode cX7_words 70 = .ok (.getfield 43, 3) := by decide +kernel
theorem dX7_words_73 : decode cX7_words 73 = .ok (.bipush 6, 2) := by decide +kernel
theorem dX7_words_75 : decode cX7_words 75 = .ok (.iload_n 3, 1) := by decide +kernel
theorem dX7_words_76 : decode cX7_words 76 = .ok (.imul, 1) := by decide +kernel
theorem dX7_words_77 : decode cX7_words 77 = .ok (.iload 5, 2) := by decide +kernel
theorem dX7_words_79 : decode cX7_words 79 = .ok (.iadd, 1) := by decide +kernel
theorem dX7_words_80 : decode cX7_words 80 = .ok (.iaload, 1) := by decide +kernel
theorem dX7_words_81 : decode cX7_words 81 = .ok (.iaload, 1) := by decide +kernel
theorem dX7_words_82 : decode cX7_words 82 = .ok (.aload_n 0, 1) := by decide +kernel
theorem dX7_words_83 : decode cX7_words 83 = .ok (.getfield 46, 3) := by decide +kernel
theorem dX7_words_86 : decode cX7_words 86 = .ok (.aload_n 0, 1) := by decide +kernel
theorem dX7_words_87 : decode cX7_words 87 = .ok (.getfield 43, 3) := by decide +kernel
theorem dX7_words_90 : decode cX7_words 90 = .ok (.bipush 6, 2) := by decide +kernel
theorem dX7_words_92 : decode cX7_words 92 = .ok (.iload_n 3, 1) := by decide +kernel
theorem dX7_words_93 : decode cX7_words 93 = .ok (.imul, 1) := by decide +kernel
theorem dX7_words_94 : decode cX7_words 94 = .ok (.iload 4, 2) := by decide +kernel
theorem dX7_words_96 : decode cX7_words 96 = .ok (.iadd, 1) := by decide +kernel
theorem dX7_words_97 : decode cX7_words 97 = .ok (.iaload, 1) := by decide +kernel
theorem dX7_words_98 : decode cX7_words 98 = .ok (.iaload, 1) := by decide +kernel
theorem dX7_words_99 : decode cX7_words 99 = .ok (.if_icmp .le 8, 3) := by decide +kernel
theorem dX7_words_102 : decode cX7_words 102 = .ok (.iload 5, 2) := by decide +kernel
theorem dX7_words_104 : decode cX7_words 104 = .ok (.goto 5, 3) := by decide +kernel
theorem dX7_words_107 : decode cX7_words 107 = .ok (.iload 4, 2) := by decide +kernel
theorem dX7_words_109 : decode cX7_words 109 = .ok (.istore 4, 2) := by decide +kernel
theorem dX7_words_111 : decode cX7_words 111 = .ok (.iinc 5 1, 3) := by decide +kernel
theorem dX7_words_114 : decode cX7_words 114 = .ok (.goto (-56), 3) := by decide +kernel
theorem dX7_words_117 : decode cX7_words 117 = .ok (.iload_n 2, 1) := by decide +kernel
theorem dX7_words_118 : decode cX7_words 118 = .ok (.iconst 4, 1) := by decide +kernel
theorem dX7_words_119 : decode cX7_words 119 = .ok (.if_icmp .ne 8, 3) := by decide +kernel
theorem dX7_words_122 : decode cX7_words 122 = .ok (.iload 4, 2) := by decide +kernel
theorem dX7_words_124 : decode cX7_words 124 = .ok (.goto 20, 3) := by decide +kernel
theorem dX7_words_127 : decode cX7_words 127 = .ok (.aload_n 0, 1) := by decide +kernel
theorem dX7_words_128 : decode cX7_words 128 = .ok (.getfield 46, 3) := by decide +kernel
theorem dX7_words_131 : decode cX7_words 131 = .ok (.aload_n 0, 1) := by decide +kernel
theorem dX7_words_132 : decode cX7_words 132 = .ok (.getfield 43, 3) := by decide +kernel
theorem dX7_words_135 : decode cX7_words 135 = .ok (.bipush 6, 2) := by decide +kernel
theorem dX7_words_137 : decode cX7_words 137 = .ok (.iload_n 3, 1) := by decide +kernel
theorem dX7_words_138 : decode cX7_words 138 = .ok (.imul, 1) := by decide +kernel
theorem dX7_words_139 : decode cX7_words 139 = .ok (.iload 4, 2) := by decide +kernel
theorem dX7_words_141 : decode cX7_words 141 = .ok (.iadd, 1) := by decide +kernel
theorem dX7_words_142 : decode cX7_words 142 = .ok (.iaload, 1) := by decide +kernel
theorem dX7_words_143 : decode cX7_words 143 = .ok (.iaload, 1) := by decide +kernel
theorem dX7_words_144 : decode cX7_words 144 = .ok (.ireturn, 1) := by decide +kernel
theorem dX7_words_145 : decode cX7_words 145 = .ok (.aload_n 0, 1) := by decide +kernel
theorem dX7_words_146 : decode cX7_words 146 = .ok (.iload_n 3, 1) := by decide +kernel
theorem dX7_words_147 : decode cX7_words 147 = .ok (.invokevirtual 245, 3) := by decide +kernel
theorem dX7_words_150 : decode cX7_words 150 = .ok (.iconst 0, 1) := by decide +kernel
theorem dX7_words_151 : decode cX7_words 151 = .ok (.istore 4, 2) := by decide +kernel
theorem dX7_words_153 : decode cX7_words 153 = .ok (.iconst (-1), 1) := by decide +kernel
theorem dX7_words_154 : decode cX7_words 154 = .ok (.istore 5, 2) := by decide +kernel
theorem dX7_words_156 : decode cX7_words 156 = .ok (.iconst (-1), 1) := by decide +kernel
theorem dX7_words_157 : decode cX7_words 157 = .ok (.istore 6, 2) := by decide +kernel
theorem dX7_words_159 : decode cX7_words 159 = .ok (.iconst 0, 1) := by decide +kernel
theorem dX7_words_160 : decode cX7_words 160 = .ok (.istore 7, 2) := by decide +kernel
theorem dX7_words_162 : decode cX7_words 162 = .ok (.iload 7, 2) := by decide +kernel
theorem dX7_words_164 : decode cX7_words 164 = .ok (.bipush 100, 2) := by decide +kernel
theorem dX7_words_166 : decode cX7_words 166 = .ok (.if_icmp .ge 41, 3) := by decide +kernel
theorem dX7_words_169 : decode cX7_words 169 = .ok (.aload_n 0, 1) := by decide +kernel
theorem dX7_words_170 : decode cX7_words 170 = .ok (.getfield 52, 3) := by decide +kernel
theorem dX7_words_173 : decode cX7_words 173 = .ok (.iload 7, 2) := by decide +kernel
theorem dX7_words_175 : decode cX7_words 175 = .ok (.baload, 1) := by decide +kernel
theorem dX7_words_176 : decode cX7_words 176 = .ok (.ifCond .eq 25, 3) := by decide +kernel
theorem dX7_words_179 : decode cX7_words 179 = .ok (.iinc 4 1, 3) := by decide +kernel
theorem dX7_words_182 : decode cX7_words 182 = .ok (.iload 5, 2) := by decide +kernel
theorem dX7_words_184 : decode cX7_words 184 = .ok (.iconst (-1), 1) := by decide +kernel
theorem dX7_words_185 : decode cX7_words 185 = .ok (.if_icmp .ne 8, 3) := by decide +kernel
theorem dX7_words_188 : decode cX7_words 188 = .ok (.iload 7, 2) := by decide +kernel
theorem dX7_words_190 : decode cX7_words 190 = .ok (.goto 5, 3) := by decide +kernel
theorem dX7_words_193 : decode cX7_words 193 = .ok (.iload 5, 2) := by decide +kernel
theorem dX7_words_195 : decode cX7_words 195 = .ok (.istore 5, 2) := by decide +kernel
theorem dX7_words_197 : decode cX7_words 197 = .ok (.iload 7, 2) := by decide +kernel
theorem dX7_words_199 : decode cX7_words 199 = .ok (.istore 6, 2) := by decide +kernel
theorem dX7_words_201 : decode cX7_words 201 = .ok (.iinc 7 1, 3) := by decide +kernel
theorem dX7_words_204 : decode cX7_words 204 = .ok (.goto (-42), 3) := by decide +kernel
theorem dX7_words_207 : decode cX7_words 207 = .ok (.iload_n 2, 1) := by decide +kernel
theorem dX7_words_208 : decode cX7_words 208 = .ok (.iconst 1, 1) := by decide +kernel
theorem dX7_words_209 : decode cX7_words 209 = .ok (.if_icmp .ne 8, 3) := by decide +kernel
theorem dX7_words_212 : decode cX7_words 212 = .ok (.iload 4, 2) := by decide +kernel
theorem dX7_words_214 : decode cX7_words 214 = .ok (.goto 15, 3) := by decide +kernel
theorem dX7_words_217 : decode cX7_words 217 = .ok (.iload_n 2, 1) := by decide +kernel
theorem dX7_words_218 : decode cX7_words 218 = .ok (.iconst 2, 1) := by decide +kernel
theorem dX7_words_219 : decode cX7_words 219 = .ok (.if_icmp .ne 8, 3) := by decide +kernel
theorem dX7_words_222 : decode cX7_words 222 = .ok (.iload 5, 2) := by decide +kernel
theorem dX7_words_224 : decode cX7_words 224 = .ok (.goto 5, 3) := by decide +kernel
theorem dX7_words_227 : decode cX7_words 227 = .ok (.iload 6, 2) := by decide +kernel
theorem dX7_words_229 : decode cX7_words 229 = .ok (.ireturn, 1) := by decide +kernel
theorem dX7_stays_0 : decode cX7_stays 0 = .ok (.aload_n 0, 1) := by decide +kernel
theorem dX7_stays_1 : decode cX7_stays 1 = .ok (.iload_n 1, 1) := by decide +kernel
theorem dX7_stays_2 : decode cX7_stays 2 = .ok (.invokevirtual 82, 3) := by decide +kernel
theorem dX7_stays_5 : decode cX7_stays 5 = .ok (.ifCond .eq 13, 3) := by decide +kernel
theorem dX7_stays_8 : decode cX7_stays 8 = .ok (.iload_n 2, 1) := by decide +kernel
theorem dX7_stays_9 : decode cX7_stays 9 = .ok (.iconst 0, 1) := by decide +kernel
theorem dX7_stays_10 : decode cX7_stays 10 = .ok (.bipush 39, 2) := by decide +kernel
theorem dX7_stays_12 : decode cX7_stays 12 = .ok (.invokestatic 78, 3) := by decide +kernel
theorem dX7_stays_15 : decode cX7_stays 15 = .ok (.ifCond .ne 6, 3) := by decide +kernel
theorem dX7_stays_18 : decode cX7_stays 18 = .ok (.bipush (-2), 2) := by decide +kernel
theorem dX7_stays_20 : decode cX7_stays 20 = .ok (.ireturn, 1) := by decide +kernel
theorem dX7_stays_21 : decode cX7_stays 21 = .ok (.aload_n 0, 1) := by decide +kernel
theorem dX7_stays_22 : decode cX7_stays 22 = .ok (.iload_n 1, 1) := by decide +kernel
theorem dX7_stays_23 : decode cX7_stays 23 = .ok (.invokevirtual 97, 3) := by decide +kernel
theorem dX7_stays_26 : decode cX7_stays 26 = .ok (.aload_n 0, 1) := by decide +kernel
theorem dX7_stays_27 : decode cX7_stays 27 = .ok (.iload_n 1, 1) := by decide +kernel
theorem dX7_stays_28 : decode cX7_stays 28 = .ok (.invokevirtual 101, 3) := by decide +kernel
theorem dX7_stays_31 : decode cX7_stays 31 = .ok (.istore_n 3, 1) := by decide +kernel
theorem dX7_stays_32 : decode cX7_stays 32 = .ok (.iconst 0, 1) := by decide +kernel
theorem dX7_stays_33 : decode cX7_stays 33 = .ok (.istore 4, 2) := by decide +kernel
theorem dX7_stays_35 : decode cX7_stays 35 = .ok (.iload 4, 2) := by decide +kernel
theorem dX7_stays_37 : decode cX7_stays 37 = .ok (.bipush 100, 2) := by decide +kernel
theorem dX7_stays_39 : decode cX7_stays 39 = .ok (.if_icmp .ge 24, 3) := by decide +kernel
theorem dX7_stays_42 : decode cX7_stays 42 = .ok (.aload_n 0, 1) := by decide +kernel
theorem dX7_stays_43 : decode cX7_stays 43 = .ok (.iload_n 3, 1) := by decide +kernel
theorem dX7_stays_44 : decode cX7_stays 44 = .ok (.invokevirtual 113, 3) := by decide +kernel
theorem dX7_stays_47 : decode cX7_stays 47 = .ok (.iload_n 2, 1) := by decide +kernel
theorem dX7_stays_48 : decode cX7_stays 48 = .ok (.if_icmp .le 15, 3) := by decide +kernel
theorem dX7_stays_51 : decode cX7_stays 51 = .ok (.aload_n 0, 1) := by decide +kernel
theorem dX7_stays_52 : decode cX7_stays 52 = .ok (.iload_n 3, 1) := by decide +kernel
theorem dX7_stays_53 : decode cX7_stays 53 = .ok (.invokevirtual 215, 3) := by decide +kernel
theorem dX7_stays_56 : decode cX7_stays 56 = .ok (.istore_n 3, 1) := by decide +kernel
theorem dX7_stays_57 : decode cX7_stays 57 = .ok (.iinc 4 1, 3) := by decide +kernel
theorem dX7_stays_60 : decode cX7_stays 60 = .ok (.goto (-25), 3) := by decide +kernel
theorem dX7_stays_63 : decode cX7_stays 63 = .ok (.iload 4, 2) := by decide +kernel
theorem dX7_stays_65 : decode cX7_stays 65 = .ok (.ireturn, 1) := by decide +kernel
theorem dX7_gcd_0 : decode cX7_gcd 0 = .ok (.lload_n 0, 1) := by decide +kernel
theorem dX7_gcd_1 : decode cX7_gcd 1 = .ok (.lstore 4, 2) := by decide +kernel
theorem dX7_gcd_3 : decode cX7_gcd 3 = .ok (.lload_n 2, 1) := by decide +kernel
theorem dX7_gcd_4 : decode cX7_gcd 4 = .ok (.lstore 6, 2) := by decide +kernel
theorem dX7_gcd_6 : decode cX7_gcd 6 = .ok (.lload 6, 2) := by decide +kernel
theorem dX7_gcd_8 : decode cX7_gcd 8 = .ok (.lconst 0, 1) := by decide +kernel
theorem dX7_gcd_9 : decode cX7_gcd 9 = .ok (.lcmp, 1) := by decide +kernel
theorem dX7_gcd_10 : decode cX7_gcd 10 = .ok (.ifCond .eq 21, 3) := by decide +kernel
theorem dX7_gcd_13 : decode cX7_gcd 13 = .ok (.lload 4, 2) := by decide +kernel
theorem dX7_gcd_15 : decode cX7_gcd 15 = .ok (.lload 6, 2) := by decide +kernel
theorem dX7_gcd_17 : decode cX7_gcd 17 = .ok (.lrem, 1) := by decide +kernel
theorem dX7_gcd_18 : decode cX7_gcd 18 = .ok (.lstore 8, 2) := by decide +kernel
theorem dX7_gcd_20 : decode cX7_gcd 20 = .ok (.lload 6, 2) := by decide +kernel
theorem dX7_gcd_22 : decode cX7_gcd 22 = .ok (.lstore 4, 2) := by decide +kernel
theorem dX7_gcd_24 : decode cX7_gcd 24 = .ok (.lload 8, 2) := by decide +kernel
theorem dX7_gcd_26 : decode cX7_gcd 26 = .ok (.lstore 6, 2) := by decide +kernel
theorem dX7_gcd_28 : decode cX7_gcd 28 = .ok (.goto (-22), 3) := by decide +kernel
theorem dX7_gcd_31 : decode cX7_gcd 31 = .ok (.lload 4, 2) := by decide +kernel
theorem dX7_gcd_33 : decode cX7_gcd 33 = .ok (.lreturn, 1) := by decide +kernel
theorem dX7_rows_0 : decode cX7_rows 0 = .ok (.aload_n 0, 1) := by decide +kernel
theorem dX7_rows_1 : decode cX7_rows 1 = .ok (.iload_n 1, 1) := by decide +kernel
theorem dX7_rows_2 : decode cX7_rows 2 = .ok (.invokevirtual 82, 3) := by decide +kernel
theorem dX7_rows_5 : decode cX7_rows 5 = .ok (.ifCond .eq 33, 3) := by decide +kernel
theorem dX7_rows_8 : decode cX7_rows 8 = .ok (.iload_n 2, 1) := by decide +kernel
theorem dX7_rows_9 : decode cX7_rows 9 = .ok (.iconst 0, 1) := by decide +kernel
theorem dX7_rows_10 : decode cX7_rows 10 = .ok (.bipush 40, 2) := by decide +kernel
theorem dX7_rows_12 : decode cX7_rows 12 = .ok (.invokestatic 78, 3) := by decide +kernel
theorem dX7_rows_15 : decode cX7_rows 15 = .ok (.ifCond .eq 23, 3) := by decide +kernel
theorem dX7_rows_18 : decode cX7_rows 18 = .ok (.iload_n 3, 1) := by decide +kernel
theorem dX7_rows_19 : decode cX7_rows 19 = .ok (.iconst 0, 1) := by decide +kernel
theorem dX7_rows_20 : decode cX7_rows 20 = .ok (.bipush 20, 2) := by decide +kernel
theorem dX7_rows_22 : decode cX7_rows 22 = .ok (.invokestatic 78, 3) := by decide +kernel
theorem dX7_rows_25 : decode cX7_rows 25 = .ok (.ifCond .eq 13, 3) := by decide +kernel
theorem dX7_rows_28 : decode cX7_rows 28 = .ok (.iload 4, 2) := by decide +kernel
theorem dX7_rows_30 : decode cX7_rows 30 = .ok (.iconst 0, 1) := by decide +kernel
theorem dX7_rows_31 : decode cX7_rows 31 = .ok (.iconst 1, 1) := by decide +kernel
theorem dX7_rows_32 : decode cX7_rows 32 = .ok (.invokestatic 78, 3) := by decide +kernel
theorem dX7_rows_35 : decode cX7_rows 35 = .ok (.ifCond .ne 7, 3) := by decide +kernel
theorem dX7_rows_38 : decode cX7_rows 38 = .ok (.ldc2_w 230, 3) := by decide +kernel
theorem dX7_rows_41 : decode cX7_rows 41 = .ok (.lreturn, 1) := by decide +kernel
theorem dX7_rows_42 : decode cX7_rows 42 = .ok (.aload_n 0, 1) := by decide +kernel
theorem dX7_rows_43 : decode cX7_rows 43 = .ok (.iload_n 1, 1) := by decide +kernel
theorem dX7_rows_44 : decode cX7_rows 44 = .ok (.invokevirtual 239, 3) := by decide +kernel
theorem dX7_rows_47 : decode cX7_rows 47 = .ok (.iconst 0, 1) := by decide +kernel
theorem dX7_rows_48 : decode cX7_rows 48 = .ok (.istore 5, 2) := by decide +kernel
theorem dX7_rows_50 : decode cX7_rows 50 = .ok (.iload 5, 2) := by decide +kernel
theorem dX7_rows_52 : decode cX7_rows 52 = .ok (.bipush 100, 2) := by decide +kernel
theorem dX7_rows_54 : decode cX7_rows 54 = .ok (.if_icmp .ge 31, 3) := by decide +kernel
theorem dX7_rows_57 : decode cX7_rows 57 = .ok (.aload_n 0, 1) := by decide +kernel
theorem dX7_rows_58 : decode cX7_rows 58 = .ok (.getfield 56, 3) := by decide +kernel
theorem dX7_rows_61 : decode cX7_rows 61 = .ok (.iload 5, 2) := by decide +kernel
theorem dX7_rows_63 : decode cX7_rows 63 = .ok (.iload 5, 2) := by decide +kernel
theorem dX7_rows_65 : decode cX7_rows 65 = .ok (.aload_n 0, 1) := by decide +kernel
theorem dX7_rows_66 : decode cX7_rows 66 = .ok (.iload_n 1, 1) := by decide +kernel
theorem dX7_rows_67 : decode cX7_rows 67 = .ok (.invokevirtual 101, 3) := by decide +kernel
theorem dX7_rows_70 : decode cX7_rows 70 = .ok (.if_icmp .ne 7, 3) := by decide +kernel
theorem dX7_rows_73 : decode cX7_rows 73 = .ok (.lconst 1, 1) := by decide +kernel
theorem dX7_rows_74 : decode cX7_rows 74 = .ok (.goto 4, 3) := by decide +kernel
theorem dX7_rows_77 : decode cX7_rows 77 = .ok (.lconst 0, 1) := by decide +kernel
theorem dX7_rows_78 : decode cX7_rows 78 = .ok (.lastore, 1) := by decide +kernel
theorem dX7_rows_79 : decode cX7_rows 79 = .ok (.iinc 5 1, 3) := by decide +kernel
theorem dX7_rows_82 : decode cX7_rows 82 = .ok (.goto (-32), 3) := by decide +kernel
theorem dX7_rows_85 : decode cX7_rows 85 = .ok (.lconst 1, 1) := by decide +kernel
theorem dX7_rows_86 : decode cX7_rows 86 = .ok (.lstore 5, 2) := by decide +kernel
theorem dX7_rows_88 : decode cX7_rows 88 = .ok (.iconst 0, 1) := by decide +kernel
theorem dX7_rows_89 : decode cX7_rows 89 = .ok (.istore 7, 2) := by decide +kernel
theorem dX7_rows_91 : decode cX7_rows 91 = .ok (.iload 7, 2) := by decide +kernel
theorem dX7_rows_93 : decode cX7_rows 93 = .ok (.iload_n 3, 1) := by decide +kernel
theorem dX7_rows_94 : decode cX7_rows 94 = .ok (.if_icmp .ge 131, 3) := by decide +kernel
theorem dX7_rows_97 : decode cX7_rows 97 = .ok (.lload 5, 2) := by decide +kernel
theorem dX7_rows_99 : decode cX7_rows 99 = .ok (.ldc2_w 248, 3) := by decide +kernel
theorem dX7_rows_102 : decode cX7_rows 102 = .ok (.lmul, 1) := by decide +kernel
theorem dX7_rows_103 : decode cX7_rows 103 = .ok (.lstore 5, 2) := by decide +kernel
theorem dX7_rows_105 : decode cX7_rows 105 = .ok (.iconst 0, 1) := by decide +kernel
theorem dX7_rows_106 : decode cX7_rows 106 = .ok (.istore 8, 2) := by decide +kernel
theorem dX7_rows_108 : decode cX7_rows 108 = .ok (.iload 8, 2) := by decide +kernel
theorem dX7_rows_110 : decode cX7_rows 110 = .ok (.bipush 100, 2) := by decide +kernel
theorem dX7_rows_112 : decode cX7_rows 112 = .ok (.if_icmp .ge 17, 3) := by decide +kernel
theorem dX7_rows_115 : decode cX7_rows 115 = .ok (.aload_n 0, 1) := by decide +kernel
theorem dX7_rows_116 : decode cX7_rows 116 = .ok (.getfield 60, 3) := by decide +kernel
theorem dX7_rows_119 : decode cX7_rows 119 = .ok (.iload 8, 2) := by decide +kernel
theorem dX7_rows_121 : decode cX7_rows 121 = .ok (.lconst 0, 1) := by decide +kernel
theorem dX7_rows_122 : decode cX7_rows 122 = .ok (.lastore, 1) := by decide +kernel
theorem dX7_rows_123 : decode cX7_rows 123 = .ok (.iinc 8 1, 3) := by decide +kernel
theorem dX7_rows_126 : decode cX7_rows 126 = .ok (.goto (-18), 3) := by decide +kernel
theorem dX7_rows_129 : decode cX7_rows 129 = .ok (.iconst 0, 1) := by decide +kernel
theorem dX7_rows_130 : decode cX7_rows 130 = .ok (.istore 8, 2) := by decide +kernel
theorem dX7_rows_132 : decode cX7_rows 132 = .ok (.iload 8, 2) := by decide +kernel
theorem dX7_rows_134 : decode cX7_rows 134 = .ok (.bipush 100, 2) := by decide +kernel
theorem dX7_rows_136 : decode cX7_rows 136 = .ok (.if_icmp .ge 53, 3) := by decide +kernel
theorem dX7_rows_139 : decode cX7_rows 139 = .ok (.iconst 0, 1) := by decide +kernel
theorem dX7_rows_140 : decode cX7_rows 140 = .ok (.istore 9, 2) := by decide +kernel
theorem dX7_rows_142 : decode cX7_rows 142 = .ok (.iload 9, 2) := by decide +kernel
theorem dX7_rows_144 : decode cX7_rows 144 = .ok (.bipush 6, 2) := by decide +kernel
theorem dX7_rows_146 : decode cX7_rows 146 = .ok (.if_icmp .ge 37, 3) := by decide +kernel
theorem dX7_rows_149 : decode cX7_rows 149 = .ok (.aload_n 0, 1) := by decide +kernel
theorem dX7_rows_150 : decode cX7_rows 150 = .ok (.getfield 60, 3) := by decide +kernel
theorem dX7_rows_153 : decode cX7_rows 153 = .ok (.aload_n 0, 1) := by decide +kernel
theorem dX7_rows_154 : decode cX7_rows 154 = .ok (.getfield 43, 3) := by decide +kernel
theorem dX7_rows_157 : decode cX7_rows 157 = .ok (.bipush 6, 2) := by decide +kernel
theorem dX7_rows_159 : decode cX7_rows 159 = .ok (.iload 8, 2) := by decide +kernel
theorem dX7_rows_161 : decode cX7_rows 161 = .ok (.imul, 1) := by decide +kernel
theorem dX7_rows_162 : decode cX7_rows 162 = .ok (.iload 9, 2) := by decide +kernel
theorem dX7_rows_164 : decode cX7_rows 164 = .ok (.iadd, 1) := by decide +kernel
theorem dX7_rows_165 : decode cX7_rows 165 = .ok (.iaload, 1) := by decide +kernel
theorem dX7_rows_166 : decode cX7_rows 166 = .ok (.dup2, 1) := by decide +kernel
theorem dX7_rows_167 : decode cX7_rows 167 = .ok (.laload, 1) := by decide +kernel
theorem dX7_rows_168 : decode cX7_rows 168 = .ok (.aload_n 0, 1) := by decide +kernel
theorem dX7_rows_169 : decode cX7_rows 169 = .ok (.getfield 56, 3) := by decide +kernel
theorem dX7_rows_172 : decode cX7_rows 172 = .ok (.iload 8, 2) := by decide +kernel
theorem dX7_rows_174 : decode cX7_rows 174 = .ok (.laload, 1) := by decide +kernel
theorem dX7_rows_175 : decode cX7_rows 175 = .ok (.ladd, 1) := by decide +kernel
theorem dX7_rows_176 : decode cX7_rows 176 = .ok (.lastore, 1) := by decide +kernel
theorem dX7_rows_177 : decode cX7_rows 177 = .ok (.iinc 9 1, 3) := by decide +kernel
theorem dX7_rows_180 : decode cX7_rows 180 = .ok (.goto (-38), 3) := by decide +kernel
theorem dX7_rows_183 : decode cX7_rows 183 = .ok (.iinc 8 1, 3) := by decide +kernel
theorem dX7_rows_186 : decode cX7_rows 186 = .ok (.goto (-54), 3) := by decide +kernel
theorem dX7_rows_189 : decode cX7_rows 189 = .ok (.iconst 0, 1) := by decide +kernel
theorem dX7_rows_190 : decode cX7_rows 190 = .ok (.istore 8, 2) := by decide +kernel
theorem dX7_rows_192 : decode cX7_rows 192 = .ok (.iload 8, 2) := by decide +kernel
theorem dX7_rows_194 : decode cX7_rows 194 = .ok (.bipush 100, 2) := by decide +kernel
theorem dX7_rows_196 : decode cX7_rows 196 = .ok (.if_icmp .ge 23, 3) := by decide +kernel
theorem dX7_rows_199 : decode cX7_rows 199 = .ok (.aload_n 0, 1) := by decide +kernel
theorem dX7_rows_200 : decode cX7_rows 200 = .ok (.getfield 56, 3) := by decide +kernel
theorem dX7_rows_203 : decode cX7_rows 203 = .ok (.iload 8, 2) := by decide +kernel
theorem dX7_rows_205 : decode cX7_rows 205 = .ok (.aload_n 0, 1) := by decide +kernel
theorem dX7_rows_206 : decode cX7_rows 206 = .ok (.getfield 60, 3) := by decide +kernel
theorem dX7_rows_209 : decode cX7_rows 209 = .ok (.iload 8, 2) := by decide +kernel
theorem dX7_rows_211 : decode cX7_rows 211 = .ok (.laload, 1) := by decide +kernel
theorem dX7_rows_212 : decode cX7_rows 212 = .ok (.lastore, 1) := by decide +kernel
theorem dX7_rows_213 : decode cX7_rows 213 = .ok (.iinc 8 1, 3) := by decide +kernel
theorem dX7_rows_216 : decode cX7_rows 216 = .ok (.goto (-24), 3) := by decide +kernel
theorem dX7_rows_219 : decode cX7_rows 219 = .ok (.iinc 7 1, 3) := by decide +kernel
theorem dX7_rows_222 : decode cX7_rows 222 = .ok (.goto (-131), 3) := by decide +kernel
theorem dX7_rows_225 : decode cX7_rows 225 = .ok (.lconst 0, 1) := by decide +kernel
theorem dX7_rows_226 : decode cX7_rows 226 = .ok (.lstore 7, 2) := by decide +kernel
theorem dX7_rows_228 : decode cX7_rows 228 = .ok (.iconst 0, 1) := by decide +kernel
theorem dX7_rows_229 : decode cX7_rows 229 = .ok (.istore 9, 2) := by decide +kernel
theorem dX7_rows_231 : decode cX7_rows 231 = .ok (.iload 9, 2) := by decide +kernel
theorem dX7_rows_233 : decode cX7_rows 233 = .ok (.bipush 100, 2) := by decide +kernel
theorem dX7_rows_235 : decode cX7_rows 235 = .ok (.if_icmp .ge 36, 3) := by decide +kernel
theorem dX7_rows_238 : decode cX7_rows 238 = .ok (.lload 7, 2) := by decide +kernel
theorem dX7_rows_240 : decode cX7_rows 240 = .ok (.aload_n 0, 1) := by decide +kernel
theorem dX7_rows_241 : decode cX7_rows 241 = .ok (.getfield 46, 3) := by decide +kernel
theorem dX7_rows_244 : decode cX7_rows 244 = .ok (.iload 9, 2) := by decide +kernel
theorem dX7_rows_246 : decode cX7_rows 246 = .ok (.iaload, 1) := by decide +kernel
theorem dX7_rows_247 : decode cX7_rows 247 = .ok (.iload_n 2, 1) := by decide +kernel
theorem dX7_rows_248 : decode cX7_rows 248 = .ok (.if_icmp .lt 13, 3) := by decide +kernel
theorem dX7_rows_251 : decode cX7_rows 251 = .ok (.aload_n 0, 1) := by decide +kernel
theorem dX7_rows_252 : decode cX7_rows 252 = .ok (.getfield 56, 3) := by decide +kernel
theorem dX7_rows_255 : decode cX7_rows 255 = .ok (.iload 9, 2) := by decide +kernel
theorem dX7_rows_257 : decode cX7_rows 257 = .ok (.laload, 1) := by decide +kernel
theorem dX7_rows_258 : decode cX7_rows 258 = .ok (.goto 4, 3) := by decide +kernel
theorem dX7_rows_261 : decode cX7_rows 261 = .ok (.lconst 0, 1) := by decide +kernel
theorem dX7_rows_262 : decode cX7_rows 262 = .ok (.ladd, 1) := by decide +kernel
theorem dX7_rows_263 : decode cX7_rows 263 = .ok (.lstore 7, 2) := by decide +kernel
theorem dX7_rows_265 : decode cX7_rows 265 = .ok (.iinc 9 1, 3) := by decide +kernel
theorem dX7_rows_268 : decode cX7_rows 268 = .ok (.goto (-37), 3) := by decide +kernel
theorem dX7_rows_271 : decode cX7_rows 271 = .ok (.lload 5, 2) := by decide +kernel
theorem dX7_rows_273 : decode cX7_rows 273 = .ok (.lload 7, 2) := by decide +kernel
theorem dX7_rows_275 : decode cX7_rows 275 = .ok (.invokestatic 250, 3) := by decide +kernel
theorem dX7_rows_278 : decode cX7_rows 278 = .ok (.lstore 9, 2) := by decide +kernel
theorem dX7_rows_280 : decode cX7_rows 280 = .ok (.iload 4, 2) := by decide +kernel
theorem dX7_rows_282 : decode cX7_rows 282 = .ok (.ifCond .ne 11, 3) := by decide +kernel
theorem dX7_rows_285 : decode cX7_rows 285 = .ok (.lload 7, 2) := by decide +kernel
theorem dX7_rows_287 : decode cX7_rows 287 = .ok (.lload 9, 2) := by decide +kernel
theorem dX7_rows_289 : decode cX7_rows 289 = .ok (.ldiv, 1) := by decide +kernel
theorem dX7_rows_290 : decode cX7_rows 290 = .ok (.goto 8, 3) := by decide +kernel
theorem dX7_rows_293 : decode cX7_rows 293 = .ok (.lload 5, 2) := by decide +kernel
theorem dX7_rows_295 : decode cX7_rows 295 = .ok (.lload 9, 2) := by decide +kernel
theorem dX7_rows_297 : decode cX7_rows 297 = .ok (.ldiv, 1) := by decide +kernel
theorem dX7_rows_298 : decode cX7_rows 298 = .ok (.lreturn, 1) := by decide +kernel
theorem dX7_whomBy_0 : decode cX7_whomBy 0 = .ok (.iconst (-1), 1) := by decide +kernel
theorem dX7_whomBy_1 : decode cX7_whomBy 1 = .ok (.istore_n 3, 1) := by decide +kernel
theorem dX7_whomBy_2 : decode cX7_whomBy 2 = .ok (.iconst (-1), 1) := by decide +kernel
theorem dX7_whomBy_3 : decode cX7_whomBy 3 = .ok (.istore 4, 2) := by decide +kernel
theorem dX7_whomBy_5 : decode cX7_whomBy 5 = .ok (.iconst 0, 1) := by decide +kernel
theorem dX7_whomBy_6 : decode cX7_whomBy 6 = .ok (.istore 5, 2) := by decide +kernel
theorem dX7_whomBy_8 : decode cX7_whomBy 8 = .ok (.iload 5, 2) := by decide +kernel
theorem dX7_whomBy_10 : decode cX7_whomBy 10 = .ok (.aload_n 0, 1) := by decide +kernel
theorem dX7_whomBy_11 : decode cX7_whomBy 11 = .ok (.invokevirtual 94, 3) := by decide +kernel
theorem dX7_whomBy_14 : decode cX7_whomBy 14 = .ok (.if_icmp .ge 61, 3) := by decide +kernel
theorem dX7_whomBy_17 : decode cX7_whomBy 17 = .ok (.aload_n 0, 1) := by decide +kernel
theorem dX7_whomBy_18 : decode cX7_whomBy 18 = .ok (.iload 5, 2) := by decide +kernel
theorem dX7_whomBy_20 : decode cX7_whomBy 20 = .ok (.invokevirtual 239, 3) := by decide +kernel
theorem dX7_whomBy_23 : decode cX7_whomBy 23 = .ok (.aload_n 0, 1) := by decide +kernel
theorem dX7_whomBy_24 : decode cX7_whomBy 24 = .ok (.iload_n 1, 1) := by decide +kernel
theorem dX7_whomBy_25 : decode cX7_whomBy 25 = .ok (.iconst 1, 1) := by decide +kernel
theorem dX7_whomBy_26 : decode cX7_whomBy 26 = .ok (.iadd, 1) := by decide +kernel
theorem dX7_whomBy_27 : decode cX7_whomBy 27 = .ok (.invokevirtual 242, 3) := by decide +kernel
theorem dX7_whomBy_30 : decode cX7_whomBy 30 = .ok (.aload_n 0, 1) := by decide +kernel
theorem dX7_whomBy_31 : decode cX7_whomBy 31 = .ok (.getfield 49, 3) := by decide +kernel
theorem dX7_whomBy_34 : decode cX7_whomBy 34 = .ok (.aload_n 0, 1) := by decide +kernel
theorem dX7_whomBy_35 : decode cX7_whomBy 35 = .ok (.iload 5, 2) := by decide +kernel
theorem dX7_whomBy_37 : decode cX7_whomBy 37 = .ok (.invokevirtual 101, 3) := by decide +kernel
theorem dX7_whomBy_40 : decode cX7_whomBy 40 = .ok (.iaload, 1) := by decide +kernel
theorem dX7_whomBy_41 : decode cX7_whomBy 41 = .ok (.istore 6, 2) := by decide +kernel
theorem dX7_whomBy_43 : decode cX7_whomBy 43 = .ok (.iload 6, 2) := by decide +kernel
theorem dX7_whomBy_45 : decode cX7_whomBy 45 = .ok (.iconst (-1), 1) := by decide +kernel
theorem dX7_whomBy_46 : decode cX7_whomBy 46 = .ok (.if_icmp .eq 23, 3) := by decide +kernel
theorem dX7_whomBy_49 : decode cX7_whomBy 49 = .ok (.iload 4, 2) := by decide +kernel
theorem dX7_whomBy_51 : decode cX7_whomBy 51 = .ok (.iconst (-1), 1) := by decide +kernel
theorem dX7_whomBy_52 : decode cX7_whomBy 52 = .ok (.if_icmp .eq 10, 3) := by decide +kernel
theorem dX7_whomBy_55 : decode cX7_whomBy 55 = .ok (.iload 6, 2) := by decide +kernel
theorem dX7_whomBy_57 : decode cX7_whomBy 57 = .ok (.iload 4, 2) := by decide +kernel
theorem dX7_whomBy_59 : decode cX7_whomBy 59 = .ok (.if_icmp .ge 10, 3) := by decide +kernel
theorem dX7_whomBy_62 : decode cX7_whomBy 62 = .ok (.iload 5, 2) := by decide +kernel
theorem dX7_whomBy_64 : decode cX7_whomBy 64 = .ok (.istore_n 3, 1) := by decide +kernel
theorem dX7_whomBy_65 : decode cX7_whomBy 65 = .ok (.iload 6, 2) := by decide +kernel
theorem dX7_whomBy_67 : decode cX7_whomBy 67 = .ok (.istore 4, 2) := by decide +kernel
theorem dX7_whomBy_69 : decode cX7_whomBy 69 = .ok (.iinc 5 1, 3) := by decide +kernel
theorem dX7_whomBy_72 : decode cX7_whomBy 72 = .ok (.goto (-64), 3) := by decide +kernel
theorem dX7_whomBy_75 : decode cX7_whomBy 75 = .ok (.iload_n 2, 1) := by decide +kernel
theorem dX7_whomBy_76 : decode cX7_whomBy 76 = .ok (.ifCond .ne 7, 3) := by decide +kernel
theorem dX7_whomBy_79 : decode cX7_whomBy 79 = .ok (.iload_n 3, 1) := by decide +kernel
theorem dX7_whomBy_80 : decode cX7_whomBy 80 = .ok (.goto 5, 3) := by decide +kernel
theorem dX7_whomBy_83 : decode cX7_whomBy 83 = .ok (.iload 4, 2) := by decide +kernel
theorem dX7_whomBy_85 : decode cX7_whomBy 85 = .ok (.ireturn, 1) := by decide +kernel
theorem dX7_whom_0 : decode cX7_whom 0 = .ok (.iload_n 1, 1) := by decide +kernel
theorem dX7_whom_1 : decode cX7_whom 1 = .ok (.iconst 0, 1) := by decide +kernel
theorem dX7_whom_2 : decode cX7_whom 2 = .ok (.bipush 39, 2) := by decide +kernel
theorem dX7_whom_4 : decode cX7_whom 4 = .ok (.invokestatic 78, 3) := by decide +kernel
theorem dX7_whom_7 : decode cX7_whom 7 = .ok (.ifCond .eq 21, 3) := by decide +kernel
theorem dX7_whom_10 : decode cX7_whom 10 = .ok (.iload_n 2, 1) := by decide +kernel
theorem dX7_whom_11 : decode cX7_whom 11 = .ok (.iconst 0, 1) := by decide +kernel
theorem dX7_whom_12 : decode cX7_whom 12 = .ok (.iconst 1, 1) := by decide +kernel
theorem dX7_whom_13 : decode cX7_whom 13 = .ok (.invokestatic 78, 3) := by decide +kernel
theorem dX7_whom_16 : decode cX7_whom 16 = .ok (.ifCond .eq 12, 3) := by decide +kernel
theorem dX7_whom_19 : decode cX7_whom 19 = .ok (.aload_n 0, 1) := by decide +kernel
theorem dX7_whom_20 : decode cX7_whom 20 = .ok (.iload_n 1, 1) := by decide +kernel
theorem dX7_whom_21 : decode cX7_whom 21 = .ok (.iload_n 2, 1) := by decide +kernel
theorem dX7_whom_22 : decode cX7_whom 22 = .ok (.invokevirtual 227, 3) := by decide +kernel
theorem dX7_whom_25 : decode cX7_whom 25 = .ok (.goto 5, 3) := by decide +kernel
theorem dX7_whom_28 : decode cX7_whom 28 = .ok (.bipush (-2), 2) := by decide +kernel
theorem dX7_whom_30 : decode cX7_whom 30 = .ok (.ireturn, 1) := by decide +kernel
theorem dX7_isSheet_0 : decode cX7_isSheet 0 = .ok (.iload_n 0, 1) := by decide +kernel
theorem dX7_isSheet_1 : decode cX7_isSheet 1 = .ok (.iconst 0, 1) := by decide +kernel
theorem dX7_isSheet_2 : decode cX7_isSheet 2 = .ok (.iconst 3, 1) := by decide +kernel
theorem dX7_isSheet_3 : decode cX7_isSheet 3 = .ok (.invokestatic 78, 3) := by decide +kernel
theorem dX7_isSheet_6 : decode cX7_isSheet 6 = .ok (.ireturn, 1) := by decide +kernel
theorem dX7_sheet_0 : decode cX7_sheet 0 = .ok (.iload_n 1, 1) := by decide +kernel
theorem dX7_sheet_1 : decode cX7_sheet 1 = .ok (.invokestatic 254, 3) := by decide +kernel
theorem dX7_sheet_4 : decode cX7_sheet 4 = .ok (.ifCond .eq 23, 3) := by decide +kernel
theorem dX7_sheet_7 : decode cX7_sheet 7 = .ok (.iload_n 2, 1) := by decide +kernel
theorem dX7_sheet_8 : decode cX7_sheet 8 = .ok (.iconst (-1), 1) := by decide +kernel
theorem dX7_sheet_9 : decode cX7_sheet 9 = .ok (.iconst 2, 1) := by decide +kernel
theorem dX7_sheet_10 : decode cX7_sheet 10 = .ok (.invokestatic 78, 3) := by decide +kernel
theorem dX7_sheet_13 : decode cX7_sheet 13 = .ok (.ifCond .eq 14, 3) := by decide +kernel
theorem dX7_sheet_16 : decode cX7_sheet 16 = .ok (.iload_n 2, 1) := by decide +kernel
theorem dX7_sheet_17 : decode cX7_sheet 17 = .ok (.iconst (-1), 1) := by decide +kernel
theorem dX7_sheet_18 : decode cX7_sheet 18 = .ok (.if_icmp .eq 12, 3) := by decide +kernel
theorem dX7_sheet_21 : decode cX7_sheet 21 = .ok (.iload_n 3, 1) := by decide +kernel
theorem dX7_sheet_22 : decode cX7_sheet 22 = .ok (.bipush 40, 2) := by decide +kernel
theorem dX7_sheet_24 : decode cX7_sheet 24 = .ok (.if_icmp .le 6, 3) := by decide +kernel
theorem dX7_sheet_27 : decode cX7_sheet 27 = .ok (.bipush (-2), 2) := by decide +kernel
theorem dX7_sheet_29 : decode cX7_sheet 29 = .ok (.ireturn, 1) := by decide +kernel
theorem dX7_sheet_30 : decode cX7_sheet 30 = .ok (.iload_n 2, 1) := by decide +kernel
theorem dX7_sheet_31 : decode cX7_sheet 31 = .ok (.iconst (-1), 1) := by decide +kernel
theorem dX7_sheet_32 : decode cX7_sheet 32 = .ok (.if_icmp .eq 10, 3) := by decide +kernel
theorem dX7_sheet_35 : decode cX7_sheet 35 = .ok (.iload_n 3, 1) := by decide +kernel
theorem dX7_sheet_36 : decode cX7_sheet 36 = .ok (.ifCond .ge 6, 3) := by decide +kernel
theorem dX7_sheet_39 : decode cX7_sheet 39 = .ok (.bipush (-14), 2) := by decide +kernel
theorem dX7_sheet_41 : decode cX7_sheet 41 = .ok (.ireturn, 1) := by decide +kernel
theorem dX7_sheet_42 : decode cX7_sheet 42 = .ok (.aload_n 0, 1) := by decide +kernel
theorem dX7_sheet_43 : decode cX7_sheet 43 = .ok (.getfield 63, 3) := by decide +kernel
theorem dX7_sheet_46 : decode cX7_sheet 46 = .ok (.iload_n 1, 1) := by decide +kernel
theorem dX7_sheet_47 : decode cX7_sheet 47 = .ok (.iload_n 2, 1) := by decide +kernel
theorem dX7_sheet_48 : decode cX7_sheet 48 = .ok (.iastore, 1) := by decide +kernel
theorem dX7_sheet_49 : decode cX7_sheet 49 = .ok (.aload_n 0, 1) := by decide +kernel
theorem dX7_sheet_50 : decode cX7_sheet 50 = .ok (.getfield 66, 3) := by decide +kernel
theorem dX7_sheet_53 : decode cX7_sheet 53 = .ok (.iload_n 1, 1) := by decide +kernel
theorem dX7_sheet_54 : decode cX7_sheet 54 = .ok (.iload_n 2, 1) := by decide +kernel
theorem dX7_sheet_55 : decode cX7_sheet 55 = .ok (.iconst (-1), 1) := by decide +kernel
theorem dX7_sheet_56 : decode cX7_sheet 56 = .ok (.if_icmp .ne 7, 3) := by decide +kernel
theorem dX7_sheet_59 : decode cX7_sheet 59 = .ok (.iconst 0, 1) := by decide +kernel
theorem dX7_sheet_60 : decode cX7_sheet 60 = .ok (.goto 4, 3) := by decide +kernel
theorem dX7_sheet_63 : decode cX7_sheet 63 = .ok (.iload_n 3, 1) := by decide +kernel
theorem dX7_sheet_64 : decode cX7_sheet 64 = .ok (.iastore, 1) := by decide +kernel
theorem dX7_sheet_65 : decode cX7_sheet 65 = .ok (.iconst 0, 1) := by decide +kernel
theorem dX7_sheet_66 : decode cX7_sheet 66 = .ok (.istore 4, 2) := by decide +kernel
theorem dX7_sheet_68 : decode cX7_sheet 68 = .ok (.iload 4, 2) := by decide +kernel
theorem dX7_sheet_70 : decode cX7_sheet 70 = .ok (.bipush 40, 2) := by decide +kernel
theorem dX7_sheet_72 : decode cX7_sheet 72 = .ok (.if_icmp .ge 22, 3) := by decide +kernel
theorem dX7_sheet_75 : decode cX7_sheet 75 = .ok (.aload_n 0, 1) := by decide +kernel
theorem dX7_sheet_76 : decode cX7_sheet 76 = .ok (.getfield 69, 3) := by decide +kernel
theorem dX7_sheet_79 : decode cX7_sheet 79 = .ok (.bipush 40, 2) := by decide +kernel
theorem dX7_sheet_81 : decode cX7_sheet 81 = .ok (.iload_n 1, 1) := by decide +kernel
theorem dX7_sheet_82 : decode cX7_sheet 82 = .ok (.imul, 1) := by decide +kernel
theorem dX7_sheet_83 : decode cX7_sheet 83 = .ok (.iload 4, 2) := by decide +kernel
theorem dX7_sheet_85 : decode cX7_sheet 85 = .ok (.iadd, 1) := by decide +kernel
theorem dX7_sheet_86 : decode cX7_sheet 86 = .ok (.iconst 0, 1) := by decide +kernel
theorem dX7_sheet_87 : decode cX7_sheet 87 = .ok (.iastore, 1) := by decide +kernel
theorem dX7_sheet_88 : decode cX7_sheet 88 = .ok (.iinc 4 1, 3) := by decide +kernel
theorem dX7_sheet_91 : decode cX7_sheet 91 = .ok (.goto (-23), 3) := by decide +kernel
theorem dX7_sheet_94 : decode cX7_sheet 94 = .ok (.iconst 1, 1) := by decide +kernel
theorem dX7_sheet_95 : decode cX7_sheet 95 = .ok (.ireturn, 1) := by decide +kernel
theorem dX7_cell_0 : decode cX7_cell 0 = .ok (.iload_n 1, 1) := by decide +kernel
theorem dX7_cell_1 : decode cX7_cell 1 = .ok (.invokestatic 254, 3) := by decide +kernel
theorem dX7_cell_4 : decode cX7_cell 4 = .ok (.ifCond .ne 6, 3) := by decide +kernel
theorem dX7_cell_7 : decode cX7_cell 7 = .ok (.bipush (-2), 2) := by decide +kernel
theorem dX7_cell_9 : decode cX7_cell 9 = .ok (.ireturn, 1) := by decide +kernel
theorem dX7_cell_10 : decode cX7_cell 10 = .ok (.aload_n 0, 1) := by decide +kernel
theorem dX7_cell_11 : decode cX7_cell 11 = .ok (.getfield 63, 3) := by decide +kernel
theorem dX7_cell_14 : decode cX7_cell 14 = .ok (.iload_n 1, 1) := by decide +kernel
theorem dX7_cell_15 : decode cX7_cell 15 = .ok (.iaload, 1) := by decide +kernel
theorem dX7_cell_16 : decode cX7_cell 16 = .ok (.iconst (-1), 1) := by decide +kernel
theorem dX7_cell_17 : decode cX7_cell 17 = .ok (.if_icmp .ne 6, 3) := by decide +kernel
theorem dX7_cell_20 : decode cX7_cell 20 = .ok (.bipush (-11), 2) := by decide +kernel
theorem dX7_cell_22 : decode cX7_cell 22 = .ok (.ireturn, 1) := by decide +kernel
theorem dX7_cell_23 : decode cX7_cell 23 = .ok (.iload_n 2, 1) := by decide +kernel
theorem dX7_cell_24 : decode cX7_cell 24 = .ok (.iconst 0, 1) := by decide +kernel
theorem dX7_cell_25 : decode cX7_cell 25 = .ok (.aload_n 0, 1) := by decide +kernel
theorem dX7_cell_26 : decode cX7_cell 26 = .ok (.getfield 66, 3) := by decide +kernel
theorem dX7_cell_29 : decode cX7_cell 29 = .ok (.iload_n 1, 1) := by decide +kernel
theorem dX7_cell_30 : decode cX7_cell 30 = .ok (.iaload, 1) := by decide +kernel
theorem dX7_cell_31 : decode cX7_cell 31 = .ok (.iconst 1, 1) := by decide +kernel
theorem dX7_cell_32 : decode cX7_cell 32 = .ok (.isub, 1) := by decide +kernel
theorem dX7_cell_33 : decode cX7_cell 33 = .ok (.invokestatic 78, 3) := by decide +kernel
theorem dX7_cell_36 : decode cX7_cell 36 = .ok (.ifCond .ne 6, 3) := by decide +kernel
theorem dX7_cell_39 : decode cX7_cell 39 = .ok (.bipush (-12), 2) := by decide +kernel
theorem dX7_cell_41 : decode cX7_cell 41 = .ok (.ireturn, 1) := by decide +kernel
theorem dX7_cell_42 : decode cX7_cell 42 = .ok (.aload_n 0, 1) := by decide +kernel
theorem dX7_cell_43 : decode cX7_cell 43 = .ok (.getfield 69, 3) := by decide +kernel
theorem dX7_cell_46 : decode cX7_cell 46 = .ok (.bipush 40, 2) := by decide +kernel
theorem dX7_cell_48 : decode cX7_cell 48 = .ok (.iload_n 1, 1) := by decide +kernel
theorem dX7_cell_49 : decode cX7_cell 49 = .ok (.imul, 1) := by decide +kernel
theorem dX7_cell_50 : decode cX7_cell 50 = .ok (.iload_n 2, 1) := by decide +kernel
theorem dX7_cell_51 : decode cX7_cell 51 = .ok (.iadd, 1) := by decide +kernel
theorem dX7_cell_52 : decode cX7_cell 52 = .ok (.aload_n 0, 1) := by decide +kernel
theorem dX7_cell_53 : decode cX7_cell 53 = .ok (.getfield 63, 3) := by decide +kernel
theorem dX7_cell_56 : decode cX7_cell 56 = .ok (.iload_n 1, 1) := by decide +kernel
theorem dX7_cell_57 : decode cX7_cell 57 = .ok (.iaload, 1) := by decide +kernel
theorem dX7_cell_58 : decode cX7_cell 58 = .ok (.ifCond .ne 8, 3) := by decide +kernel
theorem dX7_cell_61 : decode cX7_cell 61 = .ok (.iload_n 3, 1) := by decide +kernel
theorem dX7_cell_62 : decode cX7_cell 62 = .ok (.i2b, 1) := by decide +kernel
theorem dX7_cell_63 : decode cX7_cell 63 = .ok (.goto 19, 3) := by decide +kernel
theorem dX7_cell_66 : decode cX7_cell 66 = .ok (.aload_n 0, 1) := by decide +kernel
theorem dX7_cell_67 : decode cX7_cell 67 = .ok (.getfield 63, 3) := by decide +kernel
theorem dX7_cell_70 : decode cX7_cell 70 = .ok (.iload_n 1, 1) := by decide +kernel
theorem dX7_cell_71 : decode cX7_cell 71 = .ok (.iaload, 1) := by decide +kernel
theorem dX7_cell_72 : decode cX7_cell 72 = .ok (.iconst 1, 1) := by decide +kernel
theorem dX7_cell_73 : decode cX7_cell 73 = .ok (.if_icmp .ne 8, 3) := by decide +kernel
theorem dX7_cell_76 : decode cX7_cell 76 = .ok (.iload_n 3, 1) := by decide +kernel
theorem dX7_cell_77 : decode cX7_cell 77 = .ok (.i2s, 1) := by decide +kernel
theorem dX7_cell_78 : decode cX7_cell 78 = .ok (.goto 4, 3) := by decide +kernel
theorem dX7_cell_81 : decode cX7_cell 81 = .ok (.iload_n 3, 1) := by decide +kernel
theorem dX7_cell_82 : decode cX7_cell 82 = .ok (.iastore, 1) := by decide +kernel
theorem dX7_cell_83 : decode cX7_cell 83 = .ok (.iconst 1, 1) := by decide +kernel
theorem dX7_cell_84 : decode cX7_cell 84 = .ok (.ireturn, 1) := by decide +kernel
theorem dX7_copy_0 : decode cX7_copy 0 = .ok (.iload_n 1, 1) := by decide +kernel
theorem dX7_copy_1 : decode cX7_copy 1 = .ok (.invokestatic 254, 3) := by decide +kernel
theorem dX7_copy_4 : decode cX7_copy 4 = .ok (.ifCond .eq 10, 3) := by decide +kernel
theorem dX7_copy_7 : decode cX7_copy 7 = .ok (.iload_n 3, 1) := by decide +kernel
theorem dX7_copy_8 : decode cX7_copy 8 = .ok (.invokestatic 254, 3) := by decide +kernel
theorem dX7_copy_11 : decode cX7_copy 11 = .ok (.ifCond .ne 6, 3) := by decide +kernel
theorem dX7_copy_14 : decode cX7_copy 14 = .ok (.bipush (-2), 2) := by decide +kernel
theorem dX7_copy_16 : decode cX7_copy 16 = .ok (.ireturn, 1) := by decide +kernel
theorem dX7_copy_17 : decode cX7_copy 17 = .ok (.aload_n 0, 1) := by decide +kernel
theorem dX7_copy_18 : decode cX7_copy 18 = .ok (.getfield 63, 3) := by decide +kernel
theorem dX7_copy_21 : decode cX7_copy 21 = .ok (.iload_n 1, 1) := by decide +kernel
theorem dX7_copy_22 : decode cX7_copy 22 = .ok (.iaload, 1) := by decide +kernel
theorem dX7_copy_23 : decode cX7_copy 23 = .ok (.iconst (-1), 1) := by decide +kernel
theorem dX7_copy_24 : decode cX7_copy 24 = .ok (.if_icmp .eq 13, 3) := by decide +kernel
theorem dX7_copy_27 : decode cX7_copy 27 = .ok (.aload_n 0, 1) := by decide +kernel
theorem dX7_copy_28 : decode cX7_copy 28 = .ok (.getfield 63, 3) := by decide +kernel
theorem dX7_copy_31 : decode cX7_copy 31 = .ok (.iload_n 3, 1) := by decide +kernel
theorem dX7_copy_32 : decode cX7_copy 32 = .ok (.iaload, 1) := by decide +kernel
theorem dX7_copy_33 : decode cX7_copy 33 = .ok (.iconst (-1), 1) := by decide +kernel
theorem dX7_copy_34 : decode cX7_copy 34 = .ok (.if_icmp .ne 6, 3) := by decide +kernel
theorem dX7_copy_37 : decode cX7_copy 37 = .ok (.bipush (-11), 2) := by decide +kernel
theorem dX7_copy_39 : decode cX7_copy 39 = .ok (.ireturn, 1) := by decide +kernel
theorem dX7_copy_40 : decode cX7_copy 40 = .ok (.aload_n 0, 1) := by decide +kernel
theorem dX7_copy_41 : decode cX7_copy 41 = .ok (.getfield 63, 3) := by decide +kernel
theorem dX7_copy_44 : decode cX7_copy 44 = .ok (.iload_n 1, 1) := by decide +kernel
theorem dX7_copy_45 : decode cX7_copy 45 = .ok (.iaload, 1) := by decide +kernel
theorem dX7_copy_46 : decode cX7_copy 46 = .ok (.aload_n 0, 1) := by decide +kernel
theorem dX7_copy_47 : decode cX7_copy 47 = .ok (.getfield 63, 3) := by decide +kernel
theorem dX7_copy_50 : decode cX7_copy 50 = .ok (.iload_n 3, 1) := by decide +kernel
theorem dX7_copy_51 : decode cX7_copy 51 = .ok (.iaload, 1) := by decide +kernel
theorem dX7_copy_52 : decode cX7_copy 52 = .ok (.if_icmp .eq 6, 3) := by decide +kernel
theorem dX7_copy_55 : decode cX7_copy 55 = .ok (.bipush (-13), 2) := by decide +kernel
theorem dX7_copy_57 : decode cX7_copy 57 = .ok (.ireturn, 1) := by decide +kernel
theorem dX7_copy_58 : decode cX7_copy 58 = .ok (.iload 5, 2) := by decide +kernel
theorem dX7_copy_60 : decode cX7_copy 60 = .ok (.ifCond .lt 39, 3) := by decide +kernel
theorem dX7_copy_63 : decode cX7_copy 63 = .ok (.iload_n 2, 1) := by decide +kernel
theorem dX7_copy_64 : decode cX7_copy 64 = .ok (.ifCond .lt 35, 3) := by decide +kernel
theorem dX7_copy_67 : decode cX7_copy 67 = .ok (.iload 4, 2) := by decide +kernel
theorem dX7_copy_69 : decode cX7_copy 69 = .ok (.ifCond .lt 30, 3) := by decide +kernel
theorem dX7_copy_72 : decode cX7_copy 72 = .ok (.iload 5, 2) := by decide +kernel
theorem dX7_copy_74 : decode cX7_copy 74 = .ok (.aload_n 0, 1) := by decide +kernel
theorem dX7_copy_75 : decode cX7_copy 75 = .ok (.getfield 66, 3) := by decide +kernel
theorem dX7_copy_78 : decode cX7_copy 78 = .ok (.iload_n 1, 1) := by decide +kernel
theorem dX7_copy_79 : decode cX7_copy 79 = .ok (.iaload, 1) := by decide +kernel
theorem dX7_copy_80 : decode cX7_copy 80 = .ok (.iload_n 2, 1) := by decide +kernel
theorem dX7_copy_81 : decode cX7_copy 81 = .ok (.isub, 1) := by decide +kernel
theorem dX7_copy_82 : decode cX7_copy 82 = .ok (.if_icmp .gt 17, 3) := by decide +kernel
theorem dX7_copy_85 : decode cX7_copy 85 = .ok (.iload 5, 2) := by decide +kernel
theorem dX7_copy_87 : decode cX7_copy 87 = .ok (.aload_n 0, 1) := by decide +kernel
theorem dX7_copy_88 : decode cX7_copy 88 = .ok (.getfield 66, 3) := by decide +kernel
theorem dX7_copy_91 : decode cX7_copy 91 = .ok (.iload_n 3, 1) := by decide +kernel
theorem dX7_copy_92 : decode cX7_copy 92 = .ok (.iaload, 1) := by decide +kernel
theorem dX7_copy_93 : decode cX7_copy 93 = .ok (.iload 4, 2) := by decide +kernel
theorem dX7_copy_95 : decode cX7_copy 95 = .ok (.isub, 1) := by decide +kernel
theorem dX7_copy_96 : decode cX7_copy 96 = .ok (.if_icmp .le 6, 3) := by decide +kernel
theorem dX7_copy_99 : decode cX7_copy 99 = .ok (.bipush (-12), 2) := by decide +kernel
theorem dX7_copy_101 : decode cX7_copy 101 = .ok (.ireturn, 1) := by decide +kernel
theorem dX7_copy_102 : decode cX7_copy 102 = .ok (.iconst 0, 1) := by decide +kernel
theorem dX7_copy_103 : decode cX7_copy 103 = .ok (.istore 6, 2) := by decide +kernel
theorem dX7_copy_105 : decode cX7_copy 105 = .ok (.iload 6, 2) := by decide +kernel
theorem dX7_copy_107 : decode cX7_copy 107 = .ok (.iload 5, 2) := by decide +kernel
theorem dX7_copy_109 : decode cX7_copy 109 = .ok (.if_icmp .ge 30, 3) := by decide +kernel
theorem dX7_copy_112 : decode cX7_copy 112 = .ok (.aload_n 0, 1) := by decide +kernel
theorem dX7_copy_113 : decode cX7_copy 113 = .ok (.getfield 72, 3) := by decide +kernel
theorem dX7_copy_116 : decode cX7_copy 116 = .ok (.iload 6, 2) := by decide +kernel
theorem dX7_copy_118 : decode cX7_copy 118 = .ok (.aload_n 0, 1) := by decide +kernel
theorem dX7_copy_119 : decode cX7_copy 119 = .ok (.getfield 69, 3) := by decide +kernel
theorem dX7_copy_122 : decode cX7_copy 122 = .ok (.bipush 40, 2) := by decide +kernel
theorem dX7_copy_124 : decode cX7_copy 124 = .ok (.iload_n 1, 1) := by decide +kernel
theorem dX7_copy_125 : decode cX7_copy 125 = .ok (.imul, 1) := by decide +kernel
theorem dX7_copy_126 : decode cX7_copy 126 = .ok (.iload_n 2, 1) := by decide +kernel
theorem dX7_copy_127 : decode cX7_copy 127 = .ok (.iadd, 1) := by decide +kernel
theorem dX7_copy_128 : decode cX7_copy 128 = .ok (.iload 6, 2) := by decide +kernel
theorem dX7_copy_130 : decode cX7_copy 130 = .ok (.iadd, 1) := by decide +kernel
theorem dX7_copy_131 : decode cX7_copy 131 = .ok (.iaload, 1) := by decide +kernel
theorem dX7_copy_132 : decode cX7_copy 132 = .ok (.iastore, 1) := by decide +kernel
theorem dX7_copy_133 : decode cX7_copy 133 = .ok (.iinc 6 1, 3) := by decide +kernel
theorem dX7_copy_136 : decode cX7_copy 136 = .ok (.goto (-31), 3) := by decide +kernel
theorem dX7_copy_139 : decode cX7_copy 139 = .ok (.iconst 0, 1) := by decide +kernel
theorem dX7_copy_140 : decode cX7_copy 140 = .ok (.istore 6, 2) := by decide +kernel
theorem dX7_copy_142 : decode cX7_copy 142 = .ok (.iload 6, 2) := by decide +kernel
theorem dX7_copy_144 : decode cX7_copy 144 = .ok (.iload 5, 2) := by decide +kernel
theorem dX7_copy_146 : decode cX7_copy 146 = .ok (.if_icmp .ge 31, 3) := by decide +kernel
theorem dX7_copy_149 : decode cX7_copy 149 = .ok (.aload_n 0, 1) := by decide +kernel
theorem dX7_copy_150 : decode cX7_copy 150 = .ok (.getfield 69, 3) := by decide +kernel
theorem dX7_copy_153 : decode cX7_copy 153 = .ok (.bipush 40, 2) := by decide +kernel
theorem dX7_copy_155 : decode cX7_copy 155 = .ok (.iload_n 3, 1) := by decide +kernel
theorem dX7_copy_156 : decode cX7_copy 156 = .ok (.imul, 1) := by decide +kernel
theorem dX7_copy_157 : decode cX7_copy 157 = .ok (.iload 4, 2) := by decide +kernel
theorem dX7_copy_159 : decode cX7_copy 159 = .ok (.iadd, 1) := by decide +kernel
theorem dX7_copy_160 : decode cX7_copy 160 = .ok (.iload 6, 2) := by decide +kernel
theorem dX7_copy_162 : decode cX7_copy 162 = .ok (.iadd, 1) := by decide +kernel
theorem dX7_copy_163 : decode cX7_copy 163 = .ok (.aload_n 0, 1) := by decide +kernel
theorem dX7_copy_164 : decode cX7_copy 164 = .ok (.getfield 72, 3) := by decide +kernel
theorem dX7_copy_167 : decode cX7_copy 167 = .ok (.iload 6, 2) := by decide +kernel
theorem dX7_copy_169 : decode cX7_copy 169 = .ok (.iaload, 1) := by decide +kernel
theorem dX7_copy_170 : decode cX7_copy 170 = .ok (.iastore, 1) := by decide +kernel
theorem dX7_copy_171 : decode cX7_copy 171 = .ok (.iinc 6 1, 3) := by decide +kernel
theorem dX7_copy_174 : decode cX7_copy 174 = .ok (.goto (-32), 3) := by decide +kernel
theorem dX7_copy_177 : decode cX7_copy 177 = .ok (.iload 5, 2) := by decide +kernel
theorem dX7_copy_179 : decode cX7_copy 179 = .ok (.ireturn, 1) := by decide +kernel
theorem dX7_pairs_0 : decode cX7_pairs 0 = .ok (.iload_n 1, 1) := by decide +kernel
theorem dX7_pairs_1 : decode cX7_pairs 1 = .ok (.invokestatic 254, 3) := by decide +kernel
theorem dX7_pairs_4 : decode cX7_pairs 4 = .ok (.ifCond .eq 22, 3) := by decide +kernel
theorem dX7_pairs_7 : decode cX7_pairs 7 = .ok (.iload_n 2, 1) := by decide +kernel
theorem dX7_pairs_8 : decode cX7_pairs 8 = .ok (.iconst 0, 1) := by decide +kernel
theorem dX7_pairs_9 : decode cX7_pairs 9 = .ok (.iconst 2, 1) := by decide +kernel
theorem dX7_pairs_10 : decode cX7_pairs 10 = .ok (.invokestatic 78, 3) := by decide +kernel
theorem dX7_pairs_13 : decode cX7_pairs 13 = .ok (.ifCond .eq 13, 3) := by decide +kernel
theorem dX7_pairs_16 : decode cX7_pairs 16 = .ok (.iload 4, 2) := by decide +kernel
theorem dX7_pairs_18 : decode cX7_pairs 18 = .ok (.iconst 0, 1) := by decide +kernel
theorem dX7_pairs_19 : decode cX7_pairs 19 = .ok (.iconst 5, 1) := by decide +kernel
theorem dX7_pairs_20 : decode cX7_pairs 20 = .ok (.invokestatic 78, 3) := by decide +kernel
theorem dX7_pairs_23 : decode cX7_pairs 23 = .ok (.ifCond .ne 6, 3) := by decide +kernel
theorem dX7_pairs_26 : decode cX7_pairs 26 = .ok (.bipush (-2), 2) := by decide +kernel
theorem dX7_pairs_28 : decode cX7_pairs 28 = .ok (.ireturn, 1) := by decide +kernel
theorem dX7_pairs_29 : decode cX7_pairs 29 = .ok (.aload_n 0, 1) := by decide +kernel
theorem dX7_pairs_30 : decode cX7_pairs 30 = .ok (.getfield 63, 3) := by decide +kernel
theorem dX7_pairs_33 : decode cX7_pairs 33 = .ok (.iload_n 1, 1) := by decide +kernel
theorem dX7_pairs_34 : decode cX7_pairs 34 = .ok (.iaload, 1) := by decide +kernel
theorem dX7_pairs_35 : decode cX7_pairs 35 = .ok (.iconst (-1), 1) := by decide +kernel
theorem dX7_pairs_36 : decode cX7_pairs 36 = .ok (.if_icmp .ne 6, 3) := by decide +kernel
theorem dX7_pairs_39 : decode cX7_pairs 39 = .ok (.bipush (-11), 2) := by decide +kernel
theorem dX7_pairs_41 : decode cX7_pairs 41 = .ok (.ireturn, 1) := by decide +kernel
theorem dX7_pairs_42 : decode cX7_pairs 42 = .ok (.aload_n 0, 1) := by decide +kernel
theorem dX7_pairs_43 : decode cX7_pairs 43 = .ok (.getfield 63, 3) := by decide +kernel
theorem dX7_pairs_46 : decode cX7_pairs 46 = .ok (.iload_n 1, 1) := by decide +kernel
theorem dX7_pairs_47 : decode cX7_pairs 47 = .ok (.iaload, 1) := by decide +kernel
theorem dX7_pairs_48 : decode cX7_pairs 48 = .ok (.iload_n 2, 1) := by decide +kernel
theorem dX7_pairs_49 : decode cX7_pairs 49 = .ok (.if_icmp .eq 6, 3) := by decide +kernel
theorem dX7_pairs_52 : decode cX7_pairs 52 = .ok (.bipush (-13), 2) := by decide +kernel
theorem dX7_pairs_54 : decode cX7_pairs 54 = .ok (.ireturn, 1) := by decide +kernel
theorem dX7_pairs_55 : decode cX7_pairs 55 = .ok (.iconst 0, 1) := by decide +kernel
theorem dX7_pairs_56 : decode cX7_pairs 56 = .ok (.istore 5, 2) := by decide +kernel
theorem dX7_pairs_58 : decode cX7_pairs 58 = .ok (.iconst 0, 1) := by decide +kernel
theorem dX7_pairs_59 : decode cX7_pairs 59 = .ok (.istore 6, 2) := by decide +kernel
theorem dX7_pairs_61 : decode cX7_pairs 61 = .ok (.iload 6, 2) := by decide +kernel
theorem dX7_pairs_63 : decode cX7_pairs 63 = .ok (.iload 4, 2) := by decide +kernel
theorem dX7_pairs_65 : decode cX7_pairs 65 = .ok (.if_icmp .ge 88, 3) := by decide +kernel
theorem dX7_pairs_68 : decode cX7_pairs 68 = .ok (.iload_n 3, 1) := by decide +kernel
theorem dX7_pairs_69 : decode cX7_pairs 69 = .ok (.iconst 3, 1) := by decide +kernel
theorem dX7_pairs_70 : decode cX7_pairs 70 = .ok (.iload 6, 2) := by decide +kernel
theorem dX7_pairs_72 : decode cX7_pairs 72 = .ok (.imul, 1) := by decide +kernel
theorem dX7_pairs_73 : decode cX7_pairs 73 = .ok (.iadd, 1) := by decide +kernel
theorem dX7_pairs_74 : decode cX7_pairs 74 = .ok (.istore 7, 2) := by decide +kernel
theorem dX7_pairs_76 : decode cX7_pairs 76 = .ok (.iload_n 3, 1) := by decide +kernel
theorem dX7_pairs_77 : decode cX7_pairs 77 = .ok (.ifCond .lt 16, 3) := by decide +kernel
theorem dX7_pairs_80 : decode cX7_pairs 80 = .ok (.iload 7, 2) := by decide +kernel
theorem dX7_pairs_82 : decode cX7_pairs 82 = .ok (.aload_n 0, 1) := by decide +kernel
theorem dX7_pairs_83 : decode cX7_pairs 83 = .ok (.getfield 66, 3) := by decide +kernel
theorem dX7_pairs_86 : decode cX7_pairs 86 = .ok (.iload_n 1, 1) := by decide +kernel
theorem dX7_pairs_87 : decode cX7_pairs 87 = .ok (.iaload, 1) := by decide +kernel
theorem dX7_pairs_88 : decode cX7_pairs 88 = .ok (.iconst 3, 1) := by decide +kernel
theorem dX7_pairs_89 : decode cX7_pairs 89 = .ok (.isub, 1) := by decide +kernel
theorem dX7_pairs_90 : decode cX7_pairs 90 = .ok (.if_icmp .le 6, 3) := by decide +kernel
theorem dX7_pairs_93 : decode cX7_pairs 93 = .ok (.bipush (-12), 2) := by decide +kernel
theorem dX7_pairs_95 : decode cX7_pairs 95 = .ok (.ireturn, 1) := by decide +kernel
theorem dX7_pairs_96 : decode cX7_pairs 96 = .ok (.bipush 40, 2) := by decide +kernel
theorem dX7_pairs_98 : decode cX7_pairs 98 = .ok (.iload_n 1, 1) := by decide +kernel
theorem dX7_pairs_99 : decode cX7_pairs 99 = .ok (.imul, 1) := by decide +kernel
theorem dX7_pairs_100 : decode cX7_pairs 100 = .ok (.iload 7, 2) := by decide +kernel
theorem dX7_pairs_102 : decode cX7_pairs 102 = .ok (.iadd, 1) := by decide +kernel
theorem dX7_pairs_103 : decode cX7_pairs 103 = .ok (.istore 8, 2) := by decide +kernel
theorem dX7_pairs_105 : decode cX7_pairs 105 = .ok (.iload 5, 2) := by decide +kernel
theorem dX7_pairs_107 : decode cX7_pairs 107 = .ok (.aload_n 0, 1) := by decide +kernel
theorem dX7_pairs_108 : decode cX7_pairs 108 = .ok (.aload_n 0, 1) := by decide +kernel
theorem dX7_pairs_109 : decode cX7_pairs 109 = .ok (.getfield 69, 3) := by decide +kernel
theorem dX7_pairs_112 : decode cX7_pairs 112 = .ok (.iload 8, 2) := by decide +kernel
theorem dX7_pairs_114 : decode cX7_pairs 114 = .ok (.iaload, 1) := by decide +kernel
theorem dX7_pairs_115 : decode cX7_pairs 115 = .ok (.aload_n 0, 1) := by decide +kernel
theorem dX7_pairs_116 : decode cX7_pairs 116 = .ok (.getfield 69, 3) := by decide +kernel
theorem dX7_pairs_119 : decode cX7_pairs 119 = .ok (.iload 8, 2) := by decide +kernel
theorem dX7_pairs_121 : decode cX7_pairs 121 = .ok (.iconst 1, 1) := by decide +kernel
theorem dX7_pairs_122 : decode cX7_pairs 122 = .ok (.iadd, 1) := by decide +kernel
theorem dX7_pairs_123 : decode cX7_pairs 123 = .ok (.iaload, 1) := by decide +kernel
theorem dX7_pairs_124 : decode cX7_pairs 124 = .ok (.aload_n 0, 1) := by decide +kernel
theorem dX7_pairs_125 : decode cX7_pairs 125 = .ok (.getfield 69, 3) := by decide +kernel
theorem dX7_pairs_128 : decode cX7_pairs 128 = .ok (.iload 8, 2) := by decide +kernel
theorem dX7_pairs_130 : decode cX7_pairs 130 = .ok (.iconst 2, 1) := by decide +kernel
theorem dX7_pairs_131 : decode cX7_pairs 131 = .ok (.iadd, 1) := by decide +kernel
theorem dX7_pairs_132 : decode cX7_pairs 132 = .ok (.iaload, 1) := by decide +kernel
theorem dX7_pairs_133 : decode cX7_pairs 133 = .ok (.invokevirtual 257, 3) := by decide +kernel
theorem dX7_pairs_136 : decode cX7_pairs 136 = .ok (.ifCond .lt 7, 3) := by decide +kernel
theorem dX7_pairs_139 : decode cX7_pairs 139 = .ok (.iconst 1, 1) := by decide +kernel
theorem dX7_pairs_140 : decode cX7_pairs 140 = .ok (.goto 4, 3) := by decide +kernel
theorem dX7_pairs_143 : decode cX7_pairs 143 = .ok (.iconst 0, 1) := by decide +kernel
theorem dX7_pairs_144 : decode cX7_pairs 144 = .ok (.iadd, 1) := by decide +kernel
theorem dX7_pairs_145 : decode cX7_pairs 145 = .ok (.istore 5, 2) := by decide +kernel
theorem dX7_pairs_147 : decode cX7_pairs 147 = .ok (.iinc 6 1, 3) := by decide +kernel
theorem dX7_pairs_150 : decode cX7_pairs 150 = .ok (.goto (-89), 3) := by decide +kernel
theorem dX7_pairs_153 : decode cX7_pairs 153 = .ok (.iload 5, 2) := by decide +kernel
theorem dX7_pairs_155 : decode cX7_pairs 155 = .ok (.ireturn, 1) := by decide +kernel
theorem dX7_taken_0 : decode cX7_taken 0 = .ok (.iload_n 2, 1) := by decide +kernel
theorem dX7_taken_1 : decode cX7_taken 1 = .ok (.iconst 0, 1) := by decide +kernel
theorem dX7_taken_2 : decode cX7_taken 2 = .ok (.iconst 5, 1) := by decide +kernel
theorem dX7_taken_3 : decode cX7_taken 3 = .ok (.invokestatic 78, 3) := by decide +kernel
theorem dX7_taken_6 : decode cX7_taken 6 = .ok (.ifCond .ne 6, 3) := by decide +kernel
theorem dX7_taken_9 : decode cX7_taken 9 = .ok (.bipush (-2), 2) := by decide +kernel
theorem dX7_taken_11 : decode cX7_taken 11 = .ok (.ireturn, 1) := by decide +kernel
theorem dX7_taken_12 : decode cX7_taken 12 = .ok (.aload_n 0, 1) := by decide +kernel
theorem dX7_taken_13 : decode cX7_taken 13 = .ok (.iload_n 1, 1) := by decide +kernel
theorem dX7_taken_14 : decode cX7_taken 14 = .ok (.invokevirtual 82, 3) := by decide +kernel
theorem dX7_taken_17 : decode cX7_taken 17 = .ok (.ifCond .ne 6, 3) := by decide +kernel
theorem dX7_taken_20 : decode cX7_taken 20 = .ok (.bipush (-11), 2) := by decide +kernel
theorem dX7_taken_22 : decode cX7_taken 22 = .ok (.ireturn, 1) := by decide +kernel
theorem dX7_taken_23 : decode cX7_taken 23 = .ok (.aload_n 0, 1) := by decide +kernel
theorem dX7_taken_24 : decode cX7_taken 24 = .ok (.iload_n 1, 1) := by decide +kernel
theorem dX7_taken_25 : decode cX7_taken 25 = .ok (.invokevirtual 107, 3) := by decide +kernel
theorem dX7_taken_28 : decode cX7_taken 28 = .ok (.istore_n 3, 1) := by decide +kernel
theorem dX7_taken_29 : decode cX7_taken 29 = .ok (.iload_n 3, 1) := by decide +kernel
theorem dX7_taken_30 : decode cX7_taken 30 = .ok (.iconst (-1), 1) := by decide +kernel
theorem dX7_taken_31 : decode cX7_taken 31 = .ok (.if_icmp .eq 18, 3) := by decide +kernel
theorem dX7_taken_34 : decode cX7_taken 34 = .ok (.iload_n 3, 1) := by decide +kernel
theorem dX7_taken_35 : decode cX7_taken 35 = .ok (.iload_n 2, 1) := by decide +kernel
theorem dX7_taken_36 : decode cX7_taken 36 = .ok (.if_icmp .eq 13, 3) := by decide +kernel
theorem dX7_taken_39 : decode cX7_taken 39 = .ok (.aload_n 0, 1) := by decide +kernel
theorem dX7_taken_40 : decode cX7_taken 40 = .ok (.getfield 75, 3) := by decide +kernel
theorem dX7_taken_43 : decode cX7_taken 43 = .ok (.iload_n 3, 1) := by decide +kernel
theorem dX7_taken_44 : decode cX7_taken 44 = .ok (.iaload, 1) := by decide +kernel
theorem dX7_taken_45 : decode cX7_taken 45 = .ok (.istore_n 3, 1) := by decide +kernel
theorem dX7_taken_46 : decode cX7_taken 46 = .ok (.goto (-17), 3) := by decide +kernel
theorem dX7_taken_49 : decode cX7_taken 49 = .ok (.iload_n 3, 1) := by decide +kernel
theorem dX7_taken_50 : decode cX7_taken 50 = .ok (.iconst (-1), 1) := by decide +kernel
theorem dX7_taken_51 : decode cX7_taken 51 = .ok (.if_icmp .ne 8, 3) := by decide +kernel
theorem dX7_taken_54 : decode cX7_taken 54 = .ok (.bipush (-13), 2) := by decide +kernel
theorem dX7_taken_56 : decode cX7_taken 56 = .ok (.goto 8, 3) := by decide +kernel
theorem dX7_taken_59 : decode cX7_taken 59 = .ok (.aload_n 0, 1) := by decide +kernel
theorem dX7_taken_60 : decode cX7_taken 60 = .ok (.iload_n 1, 1) := by decide +kernel
theorem dX7_taken_61 : decode cX7_taken 61 = .ok (.invokevirtual 104, 3) := by decide +kernel
theorem dX7_taken_64 : decode cX7_taken 64 = .ok (.ireturn, 1) := by decide +kernel
theorem dX7_otherwise_0 : decode cX7_otherwise 0 = .ok (.iload_n 2, 1) := by decide +kernel
theorem dX7_otherwise_1 : decode cX7_otherwise 1 = .ok (.istore_n 3, 1) := by decide +kernel
theorem dX7_otherwise_2 : decode cX7_otherwise 2 = .ok (.iconst 0, 1) := by decide +kernel
theorem dX7_otherwise_3 : decode cX7_otherwise 3 = .ok (.istore 4, 2) := by decide +kernel
theorem dX7_otherwise_5 : decode cX7_otherwise 5 = .ok (.iload 4, 2) := by decide +kernel
theorem dX7_otherwise_7 : decode cX7_otherwise 7 = .ok (.aload_n 0, 1) := by decide +kernel
theorem dX7_otherwise_8 : decode cX7_otherwise 8 = .ok (.getfield 66, 3) := by decide +kernel
theorem dX7_otherwise_11 : decode cX7_otherwise 11 = .ok (.iload_n 1, 1) := by decide +kernel
theorem dX7_otherwise_12 : decode cX7_otherwise 12 = .ok (.iaload, 1) := by decide +kernel
theorem dX7_otherwise_13 : decode cX7_otherwise 13 = .ok (.if_icmp .ge 38, 3) := by decide +kernel
theorem dX7_otherwise_16 : decode cX7_otherwise 16 = .ok (.aload_n 0, 1) := by decide +kernel
theorem dX7_otherwise_17 : decode cX7_otherwise 17 = .ok (.iload_n 3, 1) := by decide +kernel
theorem dX7_otherwise_18 : decode cX7_otherwise 18 = .ok (.invokevirtual 113, 3) := by decide +kernel
theorem dX7_otherwise_21 : decode cX7_otherwise 21 = .ok (.aload_n 0, 1) := by decide +kernel
theorem dX7_otherwise_22 : decode cX7_otherwise 22 = .ok (.getfield 69, 3) := by decide +kernel
theorem dX7_otherwise_25 : decode cX7_otherwise 25 = .ok (.bipush 40, 2) := by decide +kernel
theorem dX7_otherwise_27 : decode cX7_otherwise 27 = .ok (.iload_n 1, 1) := by decide +kernel
theorem dX7_otherwise_28 : decode cX7_otherwise 28 = .ok (.imul, 1) := by decide +kernel
theorem dX7_otherwise_29 : decode cX7_otherwise 29 = .ok (.iload 4, 2) := by decide +kernel
theorem dX7_otherwise_31 : decode cX7_otherwise 31 = .ok (.iadd, 1) := by decide +kernel
theorem dX7_otherwise_32 : decode cX7_otherwise 32 = .ok (.iaload, 1) := by decide +kernel
theorem dX7_otherwise_33 : decode cX7_otherwise 33 = .ok (.if_icmp .eq 6, 3) := by decide +kernel
theorem dX7_otherwise_36 : decode cX7_otherwise 36 = .ok (.iload 4, 2) := by decide +kernel
theorem dX7_otherwise_38 : decode cX7_otherwise 38 = .ok (.ireturn, 1) := by decide +kernel
theorem dX7_otherwise_39 : decode cX7_otherwise 39 = .ok (.aload_n 0, 1) := by decide +kernel
theorem dX7_otherwise_40 : decode cX7_otherwise 40 = .ok (.iload_n 3, 1) := by decide +kernel
theorem dX7_otherwise_41 : decode cX7_otherwise 41 = .ok (.invokevirtual 215, 3) := by decide +kernel
theorem dX7_otherwise_44 : decode cX7_otherwise 44 = .ok (.istore_n 3, 1) := by decide +kernel
theorem dX7_otherwise_45 : decode cX7_otherwise 45 = .ok (.iinc 4 1, 3) := by decide +kernel
theorem dX7_otherwise_48 : decode cX7_otherwise 48 = .ok (.goto (-43), 3) := by decide +kernel
theorem dX7_otherwise_51 : decode cX7_otherwise 51 = .ok (.iconst (-1), 1) := by decide +kernel
theorem dX7_otherwise_52 : decode cX7_otherwise 52 = .ok (.ireturn, 1) := by decide +kernel
theorem dX7_fits_0 : decode cX7_fits 0 = .ok (.aload_n 0, 1) := by decide +kernel
theorem dX7_fits_1 : decode cX7_fits 1 = .ok (.iload_n 1, 1) := by decide +kernel
theorem dX7_fits_2 : decode cX7_fits 2 = .ok (.iload_n 2, 1) := by decide +kernel
theorem dX7_fits_3 : decode cX7_fits 3 = .ok (.invokevirtual 260, 3) := by decide +kernel
theorem dX7_fits_6 : decode cX7_fits 6 = .ok (.iconst (-1), 1) := by decide +kernel
theorem dX7_fits_7 : decode cX7_fits 7 = .ok (.if_icmp .ne 7, 3) := by decide +kernel
theorem dX7_fits_10 : decode cX7_fits 10 = .ok (.iconst 1, 1) := by decide +kernel
theorem dX7_fits_11 : decode cX7_fits 11 = .ok (.goto 4, 3) := by decide +kernel
theorem dX7_fits_14 : decode cX7_fits 14 = .ok (.iconst 0, 1) := by decide +kernel
theorem dX7_fits_15 : decode cX7_fits 15 = .ok (.ireturn, 1) := by decide +kernel
theorem dX7_fitAngers_0 : decode cX7_fitAngers 0 = .ok (.iconst 0, 1) := by decide +kernel
theorem dX7_fitAngers_1 : decode cX7_fitAngers 1 = .ok (.istore_n 3, 1) := by decide +kernel
theorem dX7_fitAngers_2 : decode cX7_fitAngers 2 = .ok (.iconst (-1), 1) := by decide +kernel
theorem dX7_fitAngers_3 : decode cX7_fitAngers 3 = .ok (.istore 4, 2) := by decide +kernel
theorem dX7_fitAngers_5 : decode cX7_fitAngers 5 = .ok (.bipush 99, 2) := by decide +kernel
theorem dX7_fitAngers_7 : decode cX7_fitAngers 7 = .ok (.istore 5, 2) := by decide +kernel
theorem dX7_fitAngers_9 : decode cX7_fitAngers 9 = .ok (.iload 5, 2) := by decide +kernel
theorem dX7_fitAngers_11 : decode cX7_fitAngers 11 = .ok (.ifCond .lt 45, 3) := by decide +kernel
theorem dX7_fitAngers_14 : decode cX7_fitAngers 14 = .ok (.aload_n 0, 1) := by decide +kernel
theorem dX7_fitAngers_15 : decode cX7_fitAngers 15 = .ok (.iload_n 1, 1) := by decide +kernel
theorem dX7_fitAngers_16 : decode cX7_fitAngers 16 = .ok (.iload 5, 2) := by decide +kernel
theorem dX7_fitAngers_18 : decode cX7_fitAngers 18 = .ok (.invokevirtual 263, 3) := by decide +kernel
theorem dX7_fitAngers_21 : decode cX7_fitAngers 21 = .ok (.istore 6, 2) := by decide +kernel
theorem dX7_fitAngers_23 : decode cX7_fitAngers 23 = .ok (.iload_n 3, 1) := by decide +kernel
theorem dX7_fitAngers_24 : decode cX7_fitAngers 24 = .ok (.iload 6, 2) := by decide +kernel
theorem dX7_fitAngers_26 : decode cX7_fitAngers 26 = .ok (.ifCond .eq 7, 3) := by decide +kernel
theorem dX7_fitAngers_29 : decode cX7_fitAngers 29 = .ok (.iconst 1, 1) := by decide +kernel
theorem dX7_fitAngers_30 : decode cX7_fitAngers 30 = .ok (.goto 4, 3) := by decide +kernel
theorem dX7_fitAngers_33 : decode cX7_fitAngers 33 = .ok (.iconst 0, 1) := by decide +kernel
theorem dX7_fitAngers_34 : decode cX7_fitAngers 34 = .ok (.iadd, 1) := by decide +kernel
theorem dX7_fitAngers_35 : decode cX7_fitAngers 35 = .ok (.istore_n 3, 1) := by decide +kernel
theorem dX7_fitAngers_36 : decode cX7_fitAngers 36 = .ok (.iload 6, 2) := by decide +kernel
theorem dX7_fitAngers_38 : decode cX7_fitAngers 38 = .ok (.ifCond .eq 8, 3) := by decide +kernel
theorem dX7_fitAngers_41 : decode cX7_fitAngers 41 = .ok (.iload 5, 2) := by decide +kernel
theorem dX7_fitAngers_43 : decode cX7_fitAngers 43 = .ok (.goto 5, 3) := by decide +kernel
theorem dX7_fitAngers_46 : decode cX7_fitAngers 46 = .ok (.iload 4, 2) := by decide +kernel
theorem dX7_fitAngers_48 : decode cX7_fitAngers 48 = .ok (.istore 4, 2) := by decide +kernel
theorem dX7_fitAngers_50 : decode cX7_fitAngers 50 = .ok (.iinc 5 (-1), 3) := by decide +kernel
theorem dX7_fitAngers_53 : decode cX7_fitAngers 53 = .ok (.goto (-44), 3) := by decide +kernel
theorem dX7_fitAngers_56 : decode cX7_fitAngers 56 = .ok (.iload_n 2, 1) := by decide +kernel
theorem dX7_fitAngers_57 : decode cX7_fitAngers 57 = .ok (.ifCond .eq 7, 3) := by decide +kernel
theorem dX7_fitAngers_60 : decode cX7_fitAngers 60 = .ok (.iload_n 3, 1) := by decide +kernel
theorem dX7_fitAngers_61 : decode cX7_fitAngers 61 = .ok (.goto 5, 3) := by decide +kernel
theorem dX7_fitAngers_64 : decode cX7_fitAngers 64 = .ok (.iload 4, 2) := by decide +kernel
theorem dX7_fitAngers_66 : decode cX7_fitAngers 66 = .ok (.ireturn, 1) := by decide +kernel
theorem dX7_tells_0 : decode cX7_tells 0 = .ok (.iload_n 1, 1) := by decide +kernel
theorem dX7_tells_1 : decode cX7_tells 1 = .ok (.invokestatic 254, 3) := by decide +kernel
theorem dX7_tells_4 : decode cX7_tells 4 = .ok (.ifCond .eq 21, 3) := by decide +kernel
theorem dX7_tells_7 : decode cX7_tells 7 = .ok (.aload_n 0, 1) := by decide +kernel
theorem dX7_tells_8 : decode cX7_tells 8 = .ok (.iload_n 2, 1) := by decide +kernel
theorem dX7_tells_9 : decode cX7_tells 9 = .ok (.invokevirtual 82, 3) := by decide +kernel
theorem dX7_tells_12 : decode cX7_tells 12 = .ok (.ifCond .eq 13, 3) := by decide +kernel
theorem dX7_tells_15 : decode cX7_tells 15 = .ok (.iload_n 3, 1) := by decide +kernel
theorem dX7_tells_16 : decode cX7_tells 16 = .ok (.iconst 0, 1) := by decide +kernel
theorem dX7_tells_17 : decode cX7_tells 17 = .ok (.bipush 7, 2) := by decide +kernel
theorem dX7_tells_19 : decode cX7_tells 19 = .ok (.invokestatic 78, 3) := by decide +kernel
theorem dX7_tells_22 : decode cX7_tells 22 = .ok (.ifCond .ne 6, 3) := by decide +kernel
theorem dX7_tells_25 : decode cX7_tells 25 = .ok (.bipush (-2), 2) := by decide +kernel
theorem dX7_tells_27 : decode cX7_tells 27 = .ok (.ireturn, 1) := by decide +kernel
theorem dX7_tells_28 : decode cX7_tells 28 = .ok (.aload_n 0, 1) := by decide +kernel
theorem dX7_tells_29 : decode cX7_tells 29 = .ok (.getfield 63, 3) := by decide +kernel
theorem dX7_tells_32 : decode cX7_tells 32 = .ok (.iload_n 1, 1) := by decide +kernel
theorem dX7_tells_33 : decode cX7_tells 33 = .ok (.iaload, 1) := by decide +kernel
theorem dX7_tells_34 : decode cX7_tells 34 = .ok (.iconst (-1), 1) := by decide +kernel
theorem dX7_tells_35 : decode cX7_tells 35 = .ok (.if_icmp .ne 6, 3) := by decide +kernel
theorem dX7_tells_38 : decode cX7_tells 38 = .ok (.bipush (-11), 2) := by decide +kernel
theorem dX7_tells_40 : decode cX7_tells 40 = .ok (.ireturn, 1) := by decide +kernel
theorem dX7_tells_41 : decode cX7_tells 41 = .ok (.aload_n 0, 1) := by decide +kernel
theorem dX7_tells_42 : decode cX7_tells 42 = .ok (.iload_n 2, 1) := by decide +kernel
theorem dX7_tells_43 : decode cX7_tells 43 = .ok (.invokevirtual 97, 3) := by decide +kernel
theorem dX7_tells_46 : decode cX7_tells 46 = .ok (.aload_n 0, 1) := by decide +kernel
theorem dX7_tells_47 : decode cX7_tells 47 = .ok (.iload_n 2, 1) := by decide +kernel
theorem dX7_tells_48 : decode cX7_tells 48 = .ok (.invokevirtual 101, 3) := by decide +kernel
theorem dX7_tells_51 : decode cX7_tells 51 = .ok (.istore 4, 2) := by decide +kernel
theorem dX7_tells_53 : decode cX7_tells 53 = .ok (.iload_n 3, 1) := by decide +kernel
theorem dX7_tells_54 : decode cX7_tells 54 = .ok (.ifCond .ne 11, 3) := by decide +kernel
theorem dX7_tells_57 : decode cX7_tells 57 = .ok (.aload_n 0, 1) := by decide +kernel
theorem dX7_tells_58 : decode cX7_tells 58 = .ok (.iload_n 1, 1) := by decide +kernel
theorem dX7_tells_59 : decode cX7_tells 59 = .ok (.iload 4, 2) := by decide +kernel
theorem dX7_tells_61 : decode cX7_tells 61 = .ok (.invokevirtual 260, 3) := by decide +kernel
theorem dX7_tells_64 : decode cX7_tells 64 = .ok (.ireturn, 1) := by decide +kernel
theorem dX7_tells_65 : decode cX7_tells 65 = .ok (.iload_n 3, 1) := by decide +kernel
theorem dX7_tells_66 : decode cX7_tells 66 = .ok (.iconst 3, 1) := by decide +kernel
theorem dX7_tells_67 : decode cX7_tells 67 = .ok (.if_icmp .eq 8, 3) := by decide +kernel
theorem dX7_tells_70 : decode cX7_tells 70 = .ok (.iload_n 3, 1) := by decide +kernel
theorem dX7_tells_71 : decode cX7_tells 71 = .ok (.iconst 4, 1) := by decide +kernel
theorem dX7_tells_72 : decode cX7_tells 72 = .ok (.if_icmp .ne 19, 3) := by decide +kernel
theorem dX7_tells_75 : decode cX7_tells 75 = .ok (.aload_n 0, 1) := by decide +kernel
theorem dX7_tells_76 : decode cX7_tells 76 = .ok (.iload_n 1, 1) := by decide +kernel
theorem dX7_tells_77 : decode cX7_tells 77 = .ok (.iload_n 3, 1) := by decide +kernel
theorem dX7_tells_78 : decode cX7_tells 78 = .ok (.iconst 3, 1) := by decide +kernel
theorem dX7_tells_79 : decode cX7_tells 79 = .ok (.if_icmp .ne 7, 3) := by decide +kernel
theorem dX7_tells_82 : decode cX7_tells 82 = .ok (.iconst 1, 1) := by decide +kernel
theorem dX7_tells_83 : decode cX7_tells 83 = .ok (.goto 4, 3) := by decide +kernel
theorem dX7_tells_86 : decode cX7_tells 86 = .ok (.iconst 0, 1) := by decide +kernel
theorem dX7_tells_87 : decode cX7_tells 87 = .ok (.invokevirtual 267, 3) := by decide +kernel
theorem dX7_tells_90 : decode cX7_tells 90 = .ok (.ireturn, 1) := by decide +kernel
theorem dX7_tells_91 : decode cX7_tells 91 = .ok (.iload_n 3, 1) := by decide +kernel
theorem dX7_tells_92 : decode cX7_tells 92 = .ok (.iconst 1, 1) := by decide +kernel
theorem dX7_tells_93 : decode cX7_tells 93 = .ok (.if_icmp .eq 9, 3) := by decide +kernel
theorem dX7_tells_96 : decode cX7_tells 96 = .ok (.iload_n 3, 1) := by decide +kernel
theorem dX7_tells_97 : decode cX7_tells 97 = .ok (.bipush 6, 2) := by decide +kernel
theorem dX7_tells_99 : decode cX7_tells 99 = .ok (.if_icmp .ne 8, 3) := by decide +kernel
theorem dX7_tells_102 : decode cX7_tells 102 = .ok (.bipush 6, 2) := by decide +kernel
theorem dX7_tells_104 : decode cX7_tells 104 = .ok (.goto 29, 3) := by decide +kernel
theorem dX7_tells_107 : decode cX7_tells 107 = .ok (.iload_n 3, 1) := by decide +kernel
theorem dX7_tells_108 : decode cX7_tells 108 = .ok (.iconst 2, 1) := by decide +kernel
theorem dX7_tells_109 : decode cX7_tells 109 = .ok (.if_icmp .ne 8, 3) := by decide +kernel
theorem dX7_tells_112 : decode cX7_tells 112 = .ok (.bipush 10, 2) := by decide +kernel
theorem dX7_tells_114 : decode cX7_tells 114 = .ok (.goto 19, 3) := by decide +kernel
theorem dX7_tells_117 : decode cX7_tells 117 = .ok (.iload_n 3, 1) := by decide +kernel
theorem dX7_tells_118 : decode cX7_tells 118 = .ok (.iconst 5, 1) := by decide +kernel
theorem dX7_tells_119 : decode cX7_tells 119 = .ok (.if_icmp .ne 10, 3) := by decide +kernel
theorem dX7_tells_122 : decode cX7_tells 122 = .ok (.aload_n 0, 1) := by decide +kernel
theorem dX7_tells_123 : decode cX7_tells 123 = .ok (.getfield 29, 3) := by decide +kernel
theorem dX7_tells_126 : decode cX7_tells 126 = .ok (.goto 7, 3) := by decide +kernel
theorem dX7_tells_129 : decode cX7_tells 129 = .ok (.aload_n 0, 1) := by decide +kernel
theorem dX7_tells_130 : decode cX7_tells 130 = .ok (.invokevirtual 94, 3) := by decide +kernel
theorem dX7_tells_133 : decode cX7_tells 133 = .ok (.istore 5, 2) := by decide +kernel
theorem dX7_tells_135 : decode cX7_tells 135 = .ok (.iconst 0, 1) := by decide +kernel
theorem dX7_tells_136 : decode cX7_tells 136 = .ok (.istore 6, 2) := by decide +kernel
theorem dX7_tells_138 : decode cX7_tells 138 = .ok (.iconst 0, 1) := by decide +kernel
theorem dX7_tells_139 : decode cX7_tells 139 = .ok (.istore 7, 2) := by decide +kernel
theorem dX7_tells_141 : decode cX7_tells 141 = .ok (.iload 7, 2) := by decide +kernel
theorem dX7_tells_143 : decode cX7_tells 143 = .ok (.iload 5, 2) := by decide +kernel
theorem dX7_tells_145 : decode cX7_tells 145 = .ok (.if_icmp .ge 138, 3) := by decide +kernel
theorem dX7_tells_148 : decode cX7_tells 148 = .ok (.aload_n 0, 1) := by decide +kernel
theorem dX7_tells_149 : decode cX7_tells 149 = .ok (.iload_n 3, 1) := by decide +kernel
theorem dX7_tells_150 : decode cX7_tells 150 = .ok (.bipush 7, 2) := by decide +kernel
theorem dX7_tells_152 : decode cX7_tells 152 = .ok (.if_icmp .ne 8, 3) := by decide +kernel
theorem dX7_tells_155 : decode cX7_tells 155 = .ok (.iload 7, 2) := by decide +kernel
theorem dX7_tells_157 : decode cX7_tells 157 = .ok (.goto 4, 3) := by decide +kernel
theorem dX7_tells_160 : decode cX7_tells 160 = .ok (.iload_n 2, 1) := by decide +kernel
theorem dX7_tells_161 : decode cX7_tells 161 = .ok (.invokevirtual 97, 3) := by decide +kernel
theorem dX7_tells_164 : decode cX7_tells 164 = .ok (.aload_n 0, 1) := by decide +kernel
theorem dX7_tells_165 : decode cX7_tells 165 = .ok (.iload_n 3, 1) := by decide +kernel
theorem dX7_tells_166 : decode cX7_tells 166 = .ok (.iconst 1, 1) := by decide +kernel
theorem dX7_tells_167 : decode cX7_tells 167 = .ok (.if_icmp .ne 8, 3) := by decide +kernel
theorem dX7_tells_170 : decode cX7_tells 170 = .ok (.iload 7, 2) := by decide +kernel
theorem dX7_tells_172 : decode cX7_tells 172 = .ok (.goto 7, 3) := by decide +kernel
theorem dX7_tells_175 : decode cX7_tells 175 = .ok (.aload_n 0, 1) := by decide +kernel
theorem dX7_tells_176 : decode cX7_tells 176 = .ok (.getfield 200, 3) := by decide +kernel
theorem dX7_tells_179 : decode cX7_tells 179 = .ok (.putfield 200, 3) := by decide +kernel
theorem dX7_tells_182 : decode cX7_tells 182 = .ok (.aload_n 0, 1) := by decide +kernel
theorem dX7_tells_183 : decode cX7_tells 183 = .ok (.iload_n 3, 1) := by decide +kernel
theorem dX7_tells_184 : decode cX7_tells 184 = .ok (.iconst 2, 1) := by decide +kernel
theorem dX7_tells_185 : decode cX7_tells 185 = .ok (.if_icmp .ne 8, 3) := by decide +kernel
theorem dX7_tells_188 : decode cX7_tells 188 = .ok (.iload 7, 2) := by decide +kernel
theorem dX7_tells_190 : decode cX7_tells 190 = .ok (.goto 7, 3) := by decide +kernel
theorem dX7_tells_193 : decode cX7_tells 193 = .ok (.aload_n 0, 1) := by decide +kernel
theorem dX7_tells_194 : decode cX7_tells 194 = .ok (.getfield 190, 3) := by decide +kernel
theorem dX7_tells_197 : decode cX7_tells 197 = .ok (.putfield 190, 3) := by decide +kernel
theorem dX7_tells_200 : decode cX7_tells 200 = .ok (.aload_n 0, 1) := by decide +kernel
theorem dX7_tells_201 : decode cX7_tells 201 = .ok (.iload_n 3, 1) := by decide +kernel
theorem dX7_tells_202 : decode cX7_tells 202 = .ok (.iconst 5, 1) := by decide +kernel
theorem dX7_tells_203 : decode cX7_tells 203 = .ok (.if_icmp .ne 8, 3) := by decide +kernel
theorem dX7_tells_206 : decode cX7_tells 206 = .ok (.iload 7, 2) := by decide +kernel
theorem dX7_tells_208 : decode cX7_tells 208 = .ok (.goto 7, 3) := by decide +kernel
theorem dX7_tells_211 : decode cX7_tells 211 = .ok (.aload_n 0, 1) := by decide +kernel
theorem dX7_tells_212 : decode cX7_tells 212 = .ok (.getfield 187, 3) := by decide +kernel
theorem dX7_tells_215 : decode cX7_tells 215 = .ok (.putfield 187, 3) := by decide +kernel
theorem dX7_tells_218 : decode cX7_tells 218 = .ok (.iload_n 3, 1) := by decide +kernel
theorem dX7_tells_219 : decode cX7_tells 219 = .ok (.bipush 6, 2) := by decide +kernel
theorem dX7_tells_221 : decode cX7_tells 221 = .ok (.if_icmp .ne 14, 3) := by decide +kernel
theorem dX7_tells_224 : decode cX7_tells 224 = .ok (.aload_n 0, 1) := by decide +kernel
theorem dX7_tells_225 : decode cX7_tells 225 = .ok (.iload 4, 2) := by decide +kernel
theorem dX7_tells_227 : decode cX7_tells 227 = .ok (.iload 7, 2) := by decide +kernel
theorem dX7_tells_229 : decode cX7_tells 229 = .ok (.invokevirtual 212, 3) := by decide +kernel
theorem dX7_tells_232 : decode cX7_tells 232 = .ok (.goto 20, 3) := by decide +kernel
theorem dX7_tells_235 : decode cX7_tells 235 = .ok (.iload_n 3, 1) := by decide +kernel
theorem dX7_tells_236 : decode cX7_tells 236 = .ok (.bipush 7, 2) := by decide +kernel
theorem dX7_tells_238 : decode cX7_tells 238 = .ok (.if_icmp .ne 12, 3) := by decide +kernel
theorem dX7_tells_241 : decode cX7_tells 241 = .ok (.aload_n 0, 1) := by decide +kernel
theorem dX7_tells_242 : decode cX7_tells 242 = .ok (.iload 7, 2) := by decide +kernel
theorem dX7_tells_244 : decode cX7_tells 244 = .ok (.invokevirtual 101, 3) := by decide +kernel
theorem dX7_tells_247 : decode cX7_tells 247 = .ok (.goto 5, 3) := by decide +kernel
theorem dX7_tells_250 : decode cX7_tells 250 = .ok (.iload 4, 2) := by decide +kernel
theorem dX7_tells_252 : decode cX7_tells 252 = .ok (.istore 8, 2) := by decide +kernel
theorem dX7_tells_254 : decode cX7_tells 254 = .ok (.iload 6, 2) := by decide +kernel
theorem dX7_tells_256 : decode cX7_tells 256 = .ok (.aload_n 0, 1) := by decide +kernel
theorem dX7_tells_257 : decode cX7_tells 257 = .ok (.iload_n 1, 1) := by decide +kernel
theorem dX7_tells_258 : decode cX7_tells 258 = .ok (.iload 8, 2) := by decide +kernel
theorem dX7_tells_260 : decode cX7_tells 260 = .ok (.invokevirtual 263, 3) := by decide +kernel
theorem dX7_tells_263 : decode cX7_tells 263 = .ok (.ifCond .eq 10, 3) := by decide +kernel
theorem dX7_tells_266 : decode cX7_tells 266 = .ok (.iconst 1, 1) := by decide +kernel
theorem dX7_tells_267 : decode cX7_tells 267 = .ok (.iload 7, 2) := by decide +kernel
theorem dX7_tells_269 : decode cX7_tells 269 = .ok (.ishl, 1) := by decide +kernel
theorem dX7_tells_270 : decode cX7_tells 270 = .ok (.goto 4, 3) := by decide +kernel
theorem dX7_tells_273 : decode cX7_tells 273 = .ok (.iconst 0, 1) := by decide +kernel
theorem dX7_tells_274 : decode cX7_tells 274 = .ok (.ior, 1) := by decide +kernel
theorem dX7_tells_275 : decode cX7_tells 275 = .ok (.istore 6, 2) := by decide +kernel
theorem dX7_tells_277 : decode cX7_tells 277 = .ok (.iinc 7 1, 3) := by decide +kernel
theorem dX7_tells_280 : decode cX7_tells 280 = .ok (.goto (-139), 3) := by decide +kernel
theorem dX7_tells_283 : decode cX7_tells 283 = .ok (.iload 6, 2) := by decide +kernel
theorem dX7_tells_285 : decode cX7_tells 285 = .ok (.ireturn, 1) := by decide +kernel
theorem dX7_film_0 : decode cX7_film 0 = .ok (.iload_n 1, 1) := by decide +kernel
theorem dX7_film_1 : decode cX7_film 1 = .ok (.invokestatic 254, 3) := by decide +kernel
theorem dX7_film_4 : decode cX7_film 4 = .ok (.ifCond .eq 21, 3) := by decide +kernel
theorem dX7_film_7 : decode cX7_film 7 = .ok (.aload_n 0, 1) := by decide +kernel
theorem dX7_film_8 : decode cX7_film 8 = .ok (.iload_n 2, 1) := by decide +kernel
theorem dX7_film_9 : decode cX7_film 9 = .ok (.invokevirtual 82, 3) := by decide +kernel
theorem dX7_film_12 : decode cX7_film 12 = .ok (.ifCond .eq 13, 3) := by decide +kernel
theorem dX7_film_15 : decode cX7_film 15 = .ok (.iload_n 3, 1) := by decide +kernel
theorem dX7_film_16 : decode cX7_film 16 = .ok (.iconst 0, 1) := by decide +kernel
theorem dX7_film_17 : decode cX7_film 17 = .ok (.bipush 40, 2) := by decide +kernel
theorem dX7_film_19 : decode cX7_film 19 = .ok (.invokestatic 78, 3) := by decide +kernel
theorem dX7_film_22 : decode cX7_film 22 = .ok (.ifCond .ne 6, 3) := by decide +kernel
theorem dX7_film_25 : decode cX7_film 25 = .ok (.bipush (-2), 2) := by decide +kernel
theorem dX7_film_27 : decode cX7_film 27 = .ok (.ireturn, 1) := by decide +kernel
theorem dX7_film_28 : decode cX7_film 28 = .ok (.aload_n 0, 1) := by decide +kernel
theorem dX7_film_29 : decode cX7_film 29 = .ok (.iload_n 1, 1) := by decide +kernel
theorem dX7_film_30 : decode cX7_film 30 = .ok (.iconst 0, 1) := by decide +kernel
theorem dX7_film_31 : decode cX7_film 31 = .ok (.iload_n 3, 1) := by decide +kernel
theorem dX7_film_32 : decode cX7_film 32 = .ok (.invokevirtual 271, 3) := by decide +kernel
theorem dX7_film_35 : decode cX7_film 35 = .ok (.pop, 1) := by decide +kernel
theorem dX7_film_36 : decode cX7_film 36 = .ok (.aload_n 0, 1) := by decide +kernel
theorem dX7_film_37 : decode cX7_film 37 = .ok (.iload_n 2, 1) := by decide +kernel
theorem dX7_film_38 : decode cX7_film 38 = .ok (.invokevirtual 97, 3) := by decide +kernel
theorem dX7_film_41 : decode cX7_film 41 = .ok (.aload_n 0, 1) := by decide +kernel
theorem dX7_film_42 : decode cX7_film 42 = .ok (.iload_n 2, 1) := by decide +kernel
theorem dX7_film_43 : decode cX7_film 43 = .ok (.invokevirtual 101, 3) := by decide +kernel
theorem dX7_film_46 : decode cX7_film 46 = .ok (.istore 4, 2) := by decide +kernel
theorem dX7_film_48 : decode cX7_film 48 = .ok (.iconst 0, 1) := by decide +kernel
theorem dX7_film_49 : decode cX7_film 49 = .ok (.istore 5, 2) := by decide +kernel
theorem dX7_film_51 : decode cX7_film 51 = .ok (.iload 5, 2) := by decide +kernel
theorem dX7_film_53 : decode cX7_film 53 = .ok (.iload_n 3, 1) := by decide +kernel
theorem dX7_film_54 : decode cX7_film 54 = .ok (.if_icmp .ge 35, 3) := by decide +kernel
theorem dX7_film_57 : decode cX7_film 57 = .ok (.aload_n 0, 1) := by decide +kernel
theorem dX7_film_58 : decode cX7_film 58 = .ok (.getfield 69, 3) := by decide +kernel
theorem dX7_film_61 : decode cX7_film 61 = .ok (.bipush 40, 2) := by decide +kernel
theorem dX7_film_63 : decode cX7_film 63 = .ok (.iload_n 1, 1) := by decide +kernel
theorem dX7_film_64 : decode cX7_film 64 = .ok (.imul, 1) := by decide +kernel
theorem dX7_film_65 : decode cX7_film 65 = .ok (.iload 5, 2) := by decide +kernel
theorem dX7_film_67 : decode cX7_film 67 = .ok (.iadd, 1) := by decide +kernel
theorem dX7_film_68 : decode cX7_film 68 = .ok (.aload_n 0, 1) := by decide +kernel
theorem dX7_film_69 : decode cX7_film 69 = .ok (.iload 4, 2) := by decide +kernel
theorem dX7_film_71 : decode cX7_film 71 = .ok (.invokevirtual 113, 3) := by decide +kernel
theorem dX7_film_74 : decode cX7_film 74 = .ok (.iastore, 1) := by decide +kernel
theorem dX7_film_75 : decode cX7_film 75 = .ok (.aload_n 0, 1) := by decide +kernel
theorem dX7_film_76 : decode cX7_film 76 = .ok (.iload 4, 2) := by decide +kernel
theorem dX7_film_78 : decode cX7_film 78 = .ok (.invokevirtual 215, 3) := by decide +kernel
theorem dX7_film_81 : decode cX7_film 81 = .ok (.istore 4, 2) := by decide +kernel
theorem dX7_film_83 : decode cX7_film 83 = .ok (.iinc 5 1, 3) := by decide +kernel
theorem dX7_film_86 : decode cX7_film 86 = .ok (.goto (-35), 3) := by decide +kernel
theorem dX7_film_89 : decode cX7_film 89 = .ok (.iload_n 3, 1) := by decide +kernel
theorem dX7_film_90 : decode cX7_film 90 = .ok (.ireturn, 1) := by decide +kernel
theorem dX7_farBehind_0 : decode cX7_farBehind 0 = .ok (.iload_n 1, 1) := by decide +kernel
theorem dX7_farBehind_1 : decode cX7_farBehind 1 = .ok (.istore 4, 2) := by decide +kernel
theorem dX7_farBehind_3 : decode cX7_farBehind 3 = .ok (.iload_n 2, 1) := by decide +kernel
theorem dX7_farBehind_4 : decode cX7_farBehind 4 = .ok (.istore 5, 2) := by decide +kernel
theorem dX7_farBehind_6 : decode cX7_farBehind 6 = .ok (.iconst 0, 1) := by decide +kernel
theorem dX7_farBehind_7 : decode cX7_farBehind 7 = .ok (.istore 6, 2) := by decide +kernel
theorem dX7_farBehind_9 : decode cX7_farBehind 9 = .ok (.iload 6, 2) := by decide +kernel
theorem dX7_farBehind_11 : decode cX7_farBehind 11 = .ok (.iload_n 3, 1) := by decide +kernel
theorem dX7_farBehind_12 : decode cX7_farBehind 12 = .ok (.if_icmp .ge 37, 3) := by decide +kernel
theorem dX7_farBehind_15 : decode cX7_farBehind 15 = .ok (.iload 4, 2) := by decide +kernel
theorem dX7_farBehind_17 : decode cX7_farBehind 17 = .ok (.ldc_w 274, 3) := by decide +kernel
theorem dX7_farBehind_20 : decode cX7_farBehind 20 = .ok (.imul, 1) := by decide +kernel
theorem dX7_farBehind_21 : decode cX7_farBehind 21 = .ok (.sipush 12345, 3) := by decide +kernel
theorem dX7_farBehind_24 : decode cX7_farBehind 24 = .ok (.iadd, 1) := by decide +kernel
theorem dX7_farBehind_25 : decode cX7_farBehind 25 = .ok (.istore 4, 2) := by decide +kernel
theorem dX7_farBehind_27 : decode cX7_farBehind 27 = .ok (.aload_n 0, 1) := by decide +kernel
theorem dX7_farBehind_28 : decode cX7_farBehind 28 = .ok (.iload 5, 2) := by decide +kernel
theorem dX7_farBehind_30 : decode cX7_farBehind 30 = .ok (.iload 4, 2) := by decide +kernel
theorem dX7_farBehind_32 : decode cX7_farBehind 32 = .ok (.bipush 9, 2) := by decide +kernel
theorem dX7_farBehind_34 : decode cX7_farBehind 34 = .ok (.iushr, 1) := by decide +kernel
theorem dX7_farBehind_35 : decode cX7_farBehind 35 = .ok (.bipush 6, 2) := by decide +kernel
theorem dX7_farBehind_37 : decode cX7_farBehind 37 = .ok (.irem, 1) := by decide +kernel
theorem dX7_farBehind_38 : decode cX7_farBehind 38 = .ok (.invokevirtual 212, 3) := by decide +kernel
theorem dX7_farBehind_41 : decode cX7_farBehind 41 = .ok (.istore 5, 2) := by decide +kernel
theorem dX7_farBehind_43 : decode cX7_farBehind 43 = .ok (.iinc 6 1, 3) := by decide +kernel
theorem dX7_farBehind_46 : decode cX7_farBehind 46 = .ok (.goto (-37), 3) := by decide +kernel
theorem dX7_farBehind_49 : decode cX7_farBehind 49 = .ok (.aload_n 0, 1) := by decide +kernel
theorem dX7_farBehind_50 : decode cX7_farBehind 50 = .ok (.iload 5, 2) := by decide +kernel
theorem dX7_farBehind_52 : decode cX7_farBehind 52 = .ok (.invokevirtual 113, 3) := by decide +kernel
theorem dX7_farBehind_55 : decode cX7_farBehind 55 = .ok (.ireturn, 1) := by decide +kernel
theorem dX7_drawn_0 : decode cX7_drawn 0 = .ok (.aload_n 0, 1) := by decide +kernel
theorem dX7_drawn_1 : decode cX7_drawn 1 = .ok (.iload_n 2, 1) := by decide +kernel
theorem dX7_drawn_2 : decode cX7_drawn 2 = .ok (.invokevirtual 82, 3) := by decide +kernel
theorem dX7_drawn_5 : decode cX7_drawn 5 = .ok (.ifCond .eq 13, 3) := by decide +kernel
theorem dX7_drawn_8 : decode cX7_drawn 8 = .ok (.iload_n 3, 1) := by decide +kernel
theorem dX7_drawn_9 : decode cX7_drawn 9 = .ok (.iconst 0, 1) := by decide +kernel
theorem dX7_drawn_10 : decode cX7_drawn 10 = .ok (.bipush 99, 2) := by decide +kernel
theorem dX7_drawn_12 : decode cX7_drawn 12 = .ok (.invokestatic 78, 3) := by decide +kernel
theorem dX7_drawn_15 : decode cX7_drawn 15 = .ok (.ifCond .ne 6, 3) := by decide +kernel
theorem dX7_drawn_18 : decode cX7_drawn 18 = .ok (.bipush (-2), 2) := by decide +kernel
theorem dX7_drawn_20 : decode cX7_drawn 20 = .ok (.ireturn, 1) := by decide +kernel
theorem dX7_drawn_21 : decode cX7_drawn 21 = .ok (.aload_n 0, 1) := by decide +kernel
theorem dX7_drawn_22 : decode cX7_drawn 22 = .ok (.iload_n 2, 1) := by decide +kernel
theorem dX7_drawn_23 : decode cX7_drawn 23 = .ok (.invokevirtual 97, 3) := by decide +kernel
theorem dX7_drawn_26 : decode cX7_drawn 26 = .ok (.aload_n 0, 1) := by decide +kernel
theorem dX7_drawn_27 : decode cX7_drawn 27 = .ok (.iload_n 1, 1) := by decide +kernel
theorem dX7_drawn_28 : decode cX7_drawn 28 = .ok (.aload_n 0, 1) := by decide +kernel
theorem dX7_drawn_29 : decode cX7_drawn 29 = .ok (.iload_n 2, 1) := by decide +kernel
theorem dX7_drawn_30 : decode cX7_drawn 30 = .ok (.invokevirtual 101, 3) := by decide +kernel
theorem dX7_drawn_33 : decode cX7_drawn 33 = .ok (.iload_n 3, 1) := by decide +kernel
theorem dX7_drawn_34 : decode cX7_drawn 34 = .ok (.invokevirtual 275, 3) := by decide +kernel
theorem dX7_drawn_37 : decode cX7_drawn 37 = .ok (.ireturn, 1) := by decide +kernel
theorem dX7_chance_0 : decode cX7_chance 0 = .ok (.iload_n 2, 1) := by decide +kernel
theorem dX7_chance_1 : decode cX7_chance 1 = .ok (.iconst 1, 1) := by decide +kernel
theorem dX7_chance_2 : decode cX7_chance 2 = .ok (.bipush 20, 2) := by decide +kernel
theorem dX7_chance_4 : decode cX7_chance 4 = .ok (.invokestatic 78, 3) := by decide +kernel
theorem dX7_chance_7 : decode cX7_chance 7 = .ok (.ifCond .eq 32, 3) := by decide +kernel
theorem dX7_chance_10 : decode cX7_chance 10 = .ok (.aload_n 0, 1) := by decide +kernel
theorem dX7_chance_11 : decode cX7_chance 11 = .ok (.iload_n 3, 1) := by decide +kernel
theorem dX7_chance_12 : decode cX7_chance 12 = .ok (.invokevirtual 82, 3) := by decide +kernel
theorem dX7_chance_15 : decode cX7_chance 15 = .ok (.ifCond .eq 24, 3) := by decide +kernel
theorem dX7_chance_18 : decode cX7_chance 18 = .ok (.iload 4, 2) := by decide +kernel
theorem dX7_chance_20 : decode cX7_chance 20 = .ok (.iconst 0, 1) := by decide +kernel
theorem dX7_chance_21 : decode cX7_chance 21 = .ok (.bipush 40, 2) := by decide +kernel
theorem dX7_chance_23 : decode cX7_chance 23 = .ok (.invokestatic 78, 3) := by decide +kernel
theorem dX7_chance_26 : decode cX7_chance 26 = .ok (.ifCond .eq 13, 3) := by decide +kernel
theorem dX7_chance_29 : decode cX7_chance 29 = .ok (.iload 5, 2) := by decide +kernel
theorem dX7_chance_31 : decode cX7_chance 31 = .ok (.iconst 0, 1) := by decide +kernel
theorem dX7_chance_32 : decode cX7_chance 32 = .ok (.iconst 1, 1) := by decide +kernel
theorem dX7_chance_33 : decode cX7_chance 33 = .ok (.invokestatic 78, 3) := by decide +kernel
theorem dX7_chance_36 : decode cX7_chance 36 = .ok (.ifCond .ne 7, 3) := by decide +kernel
theorem dX7_chance_39 : decode cX7_chance 39 = .ok (.ldc2_w 230, 3) := by decide +kernel
theorem dX7_chance_42 : decode cX7_chance 42 = .ok (.lreturn, 1) := by decide +kernel
theorem dX7_chance_43 : decode cX7_chance 43 = .ok (.aload_n 0, 1) := by decide +kernel
theorem dX7_chance_44 : decode cX7_chance 44 = .ok (.iload_n 3, 1) := by decide +kernel
theorem dX7_chance_45 : decode cX7_chance 45 = .ok (.invokevirtual 97, 3) := by decide +kernel
theorem dX7_chance_48 : decode cX7_chance 48 = .ok (.lconst 0, 1) := by decide +kernel
theorem dX7_chance_49 : decode cX7_chance 49 = .ok (.lstore 6, 2) := by decide +kernel
theorem dX7_chance_51 : decode cX7_chance 51 = .ok (.iconst 0, 1) := by decide +kernel
theorem dX7_chance_52 : decode cX7_chance 52 = .ok (.istore 8, 2) := by decide +kernel
theorem dX7_chance_54 : decode cX7_chance 54 = .ok (.iload 8, 2) := by decide +kernel
theorem dX7_chance_56 : decode cX7_chance 56 = .ok (.iload_n 2, 1) := by decide +kernel
theorem dX7_chance_57 : decode cX7_chance 57 = .ok (.if_icmp .ge 39, 3) := by decide +kernel
theorem dX7_chance_60 : decode cX7_chance 60 = .ok (.lload 6, 2) := by decide +kernel
theorem dX7_chance_62 : decode cX7_chance 62 = .ok (.aload_n 0, 1) := by decide +kernel
theorem dX7_chance_63 : decode cX7_chance 63 = .ok (.iload_n 1, 1) := by decide +kernel
theorem dX7_chance_64 : decode cX7_chance 64 = .ok (.iload 8, 2) := by decide +kernel
theorem dX7_chance_66 : decode cX7_chance 66 = .ok (.iadd, 1) := by decide +kernel
theorem dX7_chance_67 : decode cX7_chance 67 = .ok (.aload_n 0, 1) := by decide +kernel
theorem dX7_chance_68 : decode cX7_chance 68 = .ok (.iload_n 3, 1) := by decide +kernel
theorem dX7_chance_69 : decode cX7_chance 69 = .ok (.invokevirtual 101, 3) := by decide +kernel
theorem dX7_chance_72 : decode cX7_chance 72 = .ok (.bipush 8, 2) := by decide +kernel
theorem dX7_chance_74 : decode cX7_chance 74 = .ok (.invokevirtual 275, 3) := by decide +kernel
theorem dX7_chance_77 : decode cX7_chance 77 = .ok (.iload 4, 2) := by decide +kernel
theorem dX7_chance_79 : decode cX7_chance 79 = .ok (.if_icmp .lt 7, 3) := by decide +kernel
theorem dX7_chance_82 : decode cX7_chance 82 = .ok (.lconst 1, 1) := by decide +kernel
theorem dX7_chance_83 : decode cX7_chance 83 = .ok (.goto 4, 3) := by decide +kernel
theorem dX7_chance_86 : decode cX7_chance 86 = .ok (.lconst 0, 1) := by decide +kernel
theorem dX7_chance_87 : decode cX7_chance 87 = .ok (.ladd, 1) := by decide +kernel
theorem dX7_chance_88 : decode cX7_chance 88 = .ok (.lstore 6, 2) := by decide +kernel
theorem dX7_chance_90 : decode cX7_chance 90 = .ok (.iinc 8 1, 3) := by decide +kernel
theorem dX7_chance_93 : decode cX7_chance 93 = .ok (.goto (-39), 3) := by decide +kernel
theorem dX7_chance_96 : decode cX7_chance 96 = .ok (.iload_n 2, 1) := by decide +kernel
theorem dX7_chance_97 : decode cX7_chance 97 = .ok (.i2l, 1) := by decide +kernel
theorem dX7_chance_98 : decode cX7_chance 98 = .ok (.lload 6, 2) := by decide +kernel
theorem dX7_chance_100 : decode cX7_chance 100 = .ok (.invokestatic 250, 3) := by decide +kernel
theorem dX7_chance_103 : decode cX7_chance 103 = .ok (.lstore 8, 2) := by decide +kernel
theorem dX7_chance_105 : decode cX7_chance 105 = .ok (.iload 5, 2) := by decide +kernel
theorem dX7_chance_107 : decode cX7_chance 107 = .ok (.ifCond .ne 11, 3) := by decide +kernel
theorem dX7_chance_110 : decode cX7_chance 110 = .ok (.lload 6, 2) := by decide +kernel
theorem dX7_chance_112 : decode cX7_chance 112 = .ok (.lload 8, 2) := by decide +kernel
theorem dX7_chance_114 : decode cX7_chance 114 = .ok (.ldiv, 1) := by decide +kernel
theorem dX7_chance_115 : decode cX7_chance 115 = .ok (.goto 8, 3) := by decide +kernel
theorem dX7_chance_118 : decode cX7_chance 118 = .ok (.iload_n 2, 1) := by decide +kernel
theorem dX7_chance_119 : decode cX7_chance 119 = .ok (.i2l, 1) := by decide +kernel
theorem dX7_chance_120 : decode cX7_chance 120 = .ok (.lload 8, 2) := by decide +kernel
theorem dX7_chance_122 : decode cX7_chance 122 = .ok (.ldiv, 1) := by decide +kernel
theorem dX7_chance_123 : decode cX7_chance 123 = .ok (.lreturn, 1) := by decide +kernel
theorem dX7_image_0 : decode cX7_image 0 = .ok (.iconst 0, 1) := by decide +kernel
theorem dX7_image_1 : decode cX7_image 1 = .ok (.istore_n 1, 1) := by decide +kernel
theorem dX7_image_2 : decode cX7_image 2 = .ok (.iload_n 1, 1) := by decide +kernel
theorem dX7_image_3 : decode cX7_image 3 = .ok (.bipush 63, 2) := by decide +kernel
theorem dX7_image_5 : decode cX7_image 5 = .ok (.if_icmp .ge 21, 3) := by decide +kernel
theorem dX7_image_8 : decode cX7_image 8 = .ok (.aload_n 0, 1) := by decide +kernel
theorem dX7_image_9 : decode cX7_image 9 = .ok (.getfield 13, 3) := by decide +kernel
theorem dX7_image_12 : decode cX7_image 12 = .ok (.iload_n 1, 1) := by decide +kernel
theorem dX7_image_13 : decode cX7_image 13 = .ok (.aload_n 0, 1) := by decide +kernel
theorem dX7_image_14 : decode cX7_image 14 = .ok (.getfield 7, 3) := by decide +kernel
theorem dX7_image_17 : decode cX7_image 17 = .ok (.iload_n 1, 1) := by decide +kernel
theorem dX7_image_18 : decode cX7_image 18 = .ok (.iaload, 1) := by decide +kernel
theorem dX7_image_19 : decode cX7_image 19 = .ok (.iastore, 1) := by decide +kernel
theorem dX7_image_20 : decode cX7_image 20 = .ok (.iinc 1 1, 3) := by decide +kernel
theorem dX7_image_23 : decode cX7_image 23 = .ok (.goto (-21), 3) := by decide +kernel
theorem dX7_image_26 : decode cX7_image 26 = .ok (.aload_n 0, 1) := by decide +kernel
theorem dX7_image_27 : decode cX7_image 27 = .ok (.iconst 1, 1) := by decide +kernel
theorem dX7_image_28 : decode cX7_image 28 = .ok (.putfield 278, 3) := by decide +kernel
theorem dX7_image_31 : decode cX7_image 31 = .ok (.aload_n 0, 1) := by decide +kernel
theorem dX7_image_32 : decode cX7_image 32 = .ok (.invokevirtual 94, 3) := by decide +kernel
theorem dX7_image_35 : decode cX7_image 35 = .ok (.ireturn, 1) := by decide +kernel
theorem dX7_back_0 : decode cX7_back 0 = .ok (.aload_n 0, 1) := by decide +kernel
theorem dX7_back_1 : decode cX7_back 1 = .ok (.getfield 278, 3) := by decide +kernel
theorem dX7_back_4 : decode cX7_back 4 = .ok (.ifCond .ne 6, 3) := by decide +kernel
theorem dX7_back_7 : decode cX7_back 7 = .ok (.bipush (-3), 2) := by decide +kernel
theorem dX7_back_9 : decode cX7_back 9 = .ok (.ireturn, 1) := by decide +kernel
theorem dX7_back_10 : decode cX7_back 10 = .ok (.iconst 0, 1) := by decide +kernel
theorem dX7_back_11 : decode cX7_back 11 = .ok (.istore_n 1, 1) := by decide +kernel
theorem dX7_back_12 : decode cX7_back 12 = .ok (.iload_n 1, 1) := by decide +kernel
theorem dX7_back_13 : decode cX7_back 13 = .ok (.bipush 63, 2) := by decide +kernel
theorem dX7_back_15 : decode cX7_back 15 = .ok (.if_icmp .ge 21, 3) := by decide +kernel
theorem dX7_back_18 : decode cX7_back 18 = .ok (.aload_n 0, 1) := by decide +kernel
theorem dX7_back_19 : decode cX7_back 19 = .ok (.getfield 7, 3) := by decide +kernel
theorem dX7_back_22 : decode cX7_back 22 = .ok (.iload_n 1, 1) := by decide +kernel
theorem dX7_back_23 : decode cX7_back 23 = .ok (.aload_n 0, 1) := by decide +kernel
theorem dX7_back_24 : decode cX7_back 24 = .ok (.getfield 13, 3) := by decide +kernel
theorem dX7_back_27 : decode cX7_back 27 = .ok (.iload_n 1, 1) := by decide +kernel
theorem dX7_back_28 : decode cX7_back 28 = .ok (.iaload, 1) := by decide +kernel
theorem dX7_back_29 : decode cX7_back 29 = .ok (.iastore, 1) := by decide +kernel
theorem dX7_back_30 : decode cX7_back 30 = .ok (.iinc 1 1, 3) := by decide +kernel
theorem dX7_back_33 : decode cX7_back 33 = .ok (.goto (-21), 3) := by decide +kernel
theorem dX7_back_36 : decode cX7_back 36 = .ok (.aload_n 0, 1) := by decide +kernel
theorem dX7_back_37 : decode cX7_back 37 = .ok (.invokevirtual 94, 3) := by decide +kernel
theorem dX7_back_40 : decode cX7_back 40 = .ok (.ireturn, 1) := by decide +kernel
theorem dX7_count_0 : decode cX7_count 0 = .ok (.iconst 0, 1) := by decide +kernel
theorem dX7_count_1 : decode cX7_count 1 = .ok (.istore_n 2, 1) := by decide +kernel
theorem dX7_count_2 : decode cX7_count 2 = .ok (.iconst 0, 1) := by decide +kernel
theorem dX7_count_3 : decode cX7_count 3 = .ok (.istore_n 3, 1) := by decide +kernel
theorem dX7_count_4 : decode cX7_count 4 = .ok (.iload_n 3, 1) := by decide +kernel
theorem dX7_count_5 : decode cX7_count 5 = .ok (.aload_n 0, 1) := by decide +kernel
theorem dX7_count_6 : decode cX7_count 6 = .ok (.invokevirtual 94, 3) := by decide +kernel
theorem dX7_count_9 : decode cX7_count 9 = .ok (.if_icmp .ge 25, 3) := by decide +kernel
theorem dX7_count_12 : decode cX7_count 12 = .ok (.iload_n 2, 1) := by decide +kernel
theorem dX7_count_13 : decode cX7_count 13 = .ok (.aload_n 0, 1) := by decide +kernel
theorem dX7_count_14 : decode cX7_count 14 = .ok (.getfield 7, 3) := by decide +kernel
theorem dX7_count_17 : decode cX7_count 17 = .ok (.bipush 40, 2) := by decide +kernel
theorem dX7_count_19 : decode cX7_count 19 = .ok (.iconst 4, 1) := by decide +kernel
theorem dX7_count_20 : decode cX7_count 20 = .ok (.iload_n 3, 1) := by decide +kernel
theorem dX7_count_21 : decode cX7_count 21 = .ok (.imul, 1) := by decide +kernel
theorem dX7_count_22 : decode cX7_count 22 = .ok (.iadd, 1) := by decide +kernel
theorem dX7_count_23 : decode cX7_count 23 = .ok (.iconst 3, 1) := by decide +kernel
theorem dX7_count_24 : decode cX7_count 24 = .ok (.iadd, 1) := by decide +kernel
theorem dX7_count_25 : decode cX7_count 25 = .ok (.iaload, 1) := by decide +kernel
theorem dX7_count_26 : decode cX7_count 26 = .ok (.iadd, 1) := by decide +kernel
theorem dX7_count_27 : decode cX7_count 27 = .ok (.istore_n 2, 1) := by decide +kernel
theorem dX7_count_28 : decode cX7_count 28 = .ok (.iinc 3 1, 3) := by decide +kernel
theorem dX7_count_31 : decode cX7_count 31 = .ok (.goto (-27), 3) := by decide +kernel
theorem dX7_count_34 : decode cX7_count 34 = .ok (.iload_n 1, 1) := by decide +kernel
theorem dX7_count_35 : decode cX7_count 35 = .ok (.tableswitch 67 0 5 #[37, 42, 47, 49, 54, 59], 37) := by decide +kernel
theorem dX7_count_72 : decode cX7_count 72 = .ok (.aload_n 0, 1) := by decide +kernel
theorem dX7_count_73 : decode cX7_count 73 = .ok (.invokevirtual 94, 3) := by decide +kernel
theorem dX7_count_76 : decode cX7_count 76 = .ok (.ireturn, 1) := by decide +kernel
theorem dX7_count_77 : decode cX7_count 77 = .ok (.aload_n 0, 1) := by decide +kernel
theorem dX7_count_78 : decode cX7_count 78 = .ok (.invokevirtual 203, 3) := by decide +kernel
theorem dX7_count_81 : decode cX7_count 81 = .ok (.ireturn, 1) := by decide +kernel
theorem dX7_count_82 : decode cX7_count 82 = .ok (.iload_n 2, 1) := by decide +kernel
theorem dX7_count_83 : decode cX7_count 83 = .ok (.ireturn, 1) := by decide +kernel
theorem dX7_count_84 : decode cX7_count 84 = .ok (.aload_n 0, 1) := by decide +kernel
theorem dX7_count_85 : decode cX7_count 85 = .ok (.getfield 29, 3) := by decide +kernel
theorem dX7_count_88 : decode cX7_count 88 = .ok (.ireturn, 1) := by decide +kernel
theorem dX7_count_89 : decode cX7_count 89 = .ok (.aload_n 0, 1) := by decide +kernel
theorem dX7_count_90 : decode cX7_count 90 = .ok (.getfield 119, 3) := by decide +kernel
theorem dX7_count_93 : decode cX7_count 93 = .ok (.ireturn, 1) := by decide +kernel
theorem dX7_count_94 : decode cX7_count 94 = .ok (.aload_n 0, 1) := by decide +kernel
theorem dX7_count_95 : decode cX7_count 95 = .ok (.getfield 7, 3) := by decide +kernel
theorem dX7_count_98 : decode cX7_count 98 = .ok (.bipush 62, 2) := by decide +kernel
theorem dX7_count_100 : decode cX7_count 100 = .ok (.iaload, 1) := by decide +kernel
theorem dX7_count_101 : decode cX7_count 101 = .ok (.ireturn, 1) := by decide +kernel
theorem dX7_count_102 : decode cX7_count 102 = .ok (.bipush (-2), 2) := by decide +kernel
theorem dX7_count_104 : decode cX7_count 104 = .ok (.ireturn, 1) := by decide +kernel
end
section
theorem inX0 : ∀ w ∈ wsX00, w ∈ lw_tbl := by decide +kernel
theorem inX1 : ∀ w ∈ wsX10, w ∈ lw_tbl := by decide +kernel
theorem inX2 : ∀ w ∈ wsX20, w ∈ lw_tbl := by decide +kernel
theorem inX3 : ∀ w ∈ wsX30, w ∈ lw_tbl := by decide +kernel
theorem inX4 : ∀ w ∈ wsX40, w ∈ lw_tbl := by decide +kernel
theorem inX5 : ∀ w ∈ wsX50, w ∈ lw_tbl := by decide +kernel
theorem inX6 : ∀ w ∈ wsX60, w ∈ lw_tbl := by decide +kernel
theorem inX7 : ∀ w ∈ wsX70, w ∈ lw_tbl := by decide +kernel
end
