section
-- ===== PART A: goes FIRST, ahead of the names: the tables' words, and 'selects' of the private methods out of them =====
/-- a private method of a class that the tables say can be made, by its rows of tables_1 -/
def lw_okq (q : MethodName × Nat) : Prop := (q.1.cls ≠ "java/lang/invoke/MethodHandle" ∧ q.1.cls ≠ "java/lang/invoke/VarHandle") ∧ Cond.instantiable q.1.cls q.2 ∈ tables_1 ∧ Cond.privateMethod q.1 ∈ tables_1 ∧ Cond.instanceMethod q.1 ∈ tables_1
theorem lw_p0 : lw_okq (⟨"RawPictures$Reader", "readStage", "()V"⟩, 5) := ⟨⟨by decide +kernel, by decide +kernel⟩, List.mem_of_getElem? (i := 130) (by decide +kernel), List.mem_of_getElem? (i := 400) (by decide +kernel), List.mem_of_getElem? (i := 401) (by decide +kernel)⟩
theorem lw_p1 : lw_okq (⟨"RawPictures$Reader", "readLetter", "()I"⟩, 5) := ⟨⟨by decide +kernel, by decide +kernel⟩, List.mem_of_getElem? (i := 130) (by decide +kernel), List.mem_of_getElem? (i := 404) (by decide +kernel), List.mem_of_getElem? (i := 405) (by decide +kernel)⟩
theorem lw_p2 : lw_okq (⟨"RawPictures$Reader", "here", "()I"⟩, 5) := ⟨⟨by decide +kernel, by decide +kernel⟩, List.mem_of_getElem? (i := 130) (by decide +kernel), List.mem_of_getElem? (i := 408) (by decide +kernel), List.mem_of_getElem? (i := 409) (by decide +kernel)⟩
theorem lw_p3 : lw_okq (⟨"RawPictures$Reader", "tell", "(II)V"⟩, 5) := ⟨⟨by decide +kernel, by decide +kernel⟩, List.mem_of_getElem? (i := 130) (by decide +kernel), List.mem_of_getElem? (i := 503) (by decide +kernel), List.mem_of_getElem? (i := 504) (by decide +kernel)⟩
theorem lw_p4 : lw_okq (⟨"RawPictures$Reader", "expect", "(C)V"⟩, 5) := ⟨⟨by decide +kernel, by decide +kernel⟩, List.mem_of_getElem? (i := 130) (by decide +kernel), List.mem_of_getElem? (i := 511) (by decide +kernel), List.mem_of_getElem? (i := 512) (by decide +kernel)⟩
theorem lw_p5 : lw_okq (⟨"RawPictures$Reader", "readPoints", "()V"⟩, 5) := ⟨⟨by decide +kernel, by decide +kernel⟩, List.mem_of_getElem? (i := 130) (by decide +kernel), List.mem_of_getElem? (i := 515) (by decide +kernel), List.mem_of_getElem? (i := 516) (by decide +kernel)⟩
theorem lw_p6 : lw_okq (⟨"RawPictures$Reader", "readNumber", "(II)I"⟩, 5) := ⟨⟨by decide +kernel, by decide +kernel⟩, List.mem_of_getElem? (i := 130) (by decide +kernel), List.mem_of_getElem? (i := 519) (by decide +kernel), List.mem_of_getElem? (i := 520) (by decide +kernel)⟩
theorem lw_p7 : lw_okq (⟨"RawPictures$Reader", "isDigit", "()Z"⟩, 5) := ⟨⟨by decide +kernel, by decide +kernel⟩, List.mem_of_getElem? (i := 130) (by decide +kernel), List.mem_of_getElem? (i := 523) (by decide +kernel), List.mem_of_getElem? (i := 524) (by decide +kernel)⟩
theorem lw_p8 : lw_okq (⟨"RawPictures$Reader", "readNumbers", "(I)V"⟩, 5) := ⟨⟨by decide +kernel, by decide +kernel⟩, List.mem_of_getElem? (i := 130) (by decide +kernel), List.mem_of_getElem? (i := 531) (by decide +kernel), List.mem_of_getElem? (i := 532) (by decide +kernel)⟩
theorem lw_p9 : lw_okq (⟨"RawPictures", "rawChanged", "()V"⟩, 13) := ⟨⟨by decide +kernel, by decide +kernel⟩, List.mem_of_getElem? (i := 24) (by decide +kernel), List.mem_of_getElem? (i := 580) (by decide +kernel), List.mem_of_getElem? (i := 581) (by decide +kernel)⟩
theorem lw_p10 : lw_okq (⟨"RawPictures", "drawn", "(II)I"⟩, 13) := ⟨⟨by decide +kernel, by decide +kernel⟩, List.mem_of_getElem? (i := 24) (by decide +kernel), List.mem_of_getElem? (i := 609) (by decide +kernel), List.mem_of_getElem? (i := 610) (by decide +kernel)⟩
theorem lw_p11 : lw_okq (⟨"RawPictures$Truth", "isFirst", "(IIILRawPictures$Mosaic;)Z"⟩, 2) := ⟨⟨by decide +kernel, by decide +kernel⟩, List.mem_of_getElem? (i := 88) (by decide +kernel), List.mem_of_getElem? (i := 632) (by decide +kernel), List.mem_of_getElem? (i := 633) (by decide +kernel)⟩
theorem lw_p12 : lw_okq (⟨"RawPictures$Darkroom", "apply", "(IILRawPictures$Sheet;LRawPictures$Sheet;)V"⟩, 8) := ⟨⟨by decide +kernel, by decide +kernel⟩, List.mem_of_getElem? (i := 155) (by decide +kernel), List.mem_of_getElem? (i := 689) (by decide +kernel), List.mem_of_getElem? (i := 690) (by decide +kernel)⟩
theorem lw_p13 : lw_okq (⟨"RawPictures$EarlyStages", "greenOf", "(LRawPictures$Sheet;III)I"⟩, 1) := ⟨⟨by decide +kernel, by decide +kernel⟩, List.mem_of_getElem? (i := 180) (by decide +kernel), List.mem_of_getElem? (i := 739) (by decide +kernel), List.mem_of_getElem? (i := 740) (by decide +kernel)⟩
theorem lw_p14 : lw_okq (⟨"RawPictures$EarlyStages", "fillRedAndBlue", "(LRawPictures$Sheet;LRawPictures$Sheet;II)V"⟩, 1) := ⟨⟨by decide +kernel, by decide +kernel⟩, List.mem_of_getElem? (i := 180) (by decide +kernel), List.mem_of_getElem? (i := 748) (by decide +kernel), List.mem_of_getElem? (i := 749) (by decide +kernel)⟩
theorem lw_p15 : lw_okq (⟨"RawPictures$EarlyStages", "aboveGreen", "(LRawPictures$Sheet;LRawPictures$Sheet;II)I"⟩, 1) := ⟨⟨by decide +kernel, by decide +kernel⟩, List.mem_of_getElem? (i := 180) (by decide +kernel), List.mem_of_getElem? (i := 752) (by decide +kernel), List.mem_of_getElem? (i := 753) (by decide +kernel)⟩
def lw_privs_1 : List (MethodName × Nat) := [(⟨"RawPictures$Reader", "readStage", "()V"⟩, 5), (⟨"RawPictures$Reader", "readLetter", "()I"⟩, 5), (⟨"RawPictures$Reader", "here", "()I"⟩, 5), (⟨"RawPictures$Reader", "tell", "(II)V"⟩, 5), (⟨"RawPictures$Reader", "expect", "(C)V"⟩, 5), (⟨"RawPictures$Reader", "readPoints", "()V"⟩, 5), (⟨"RawPictures$Reader", "readNumber", "(II)I"⟩, 5), (⟨"RawPictures$Reader", "isDigit", "()Z"⟩, 5), (⟨"RawPictures$Reader", "readNumbers", "(I)V"⟩, 5), (⟨"RawPictures", "rawChanged", "()V"⟩, 13), (⟨"RawPictures", "drawn", "(II)I"⟩, 13), (⟨"RawPictures$Truth", "isFirst", "(IIILRawPictures$Mosaic;)Z"⟩, 2), (⟨"RawPictures$Darkroom", "apply", "(IILRawPictures$Sheet;LRawPictures$Sheet;)V"⟩, 8), (⟨"RawPictures$EarlyStages", "greenOf", "(LRawPictures$Sheet;III)I"⟩, 1), (⟨"RawPictures$EarlyStages", "fillRedAndBlue", "(LRawPictures$Sheet;LRawPictures$Sheet;II)V"⟩, 1), (⟨"RawPictures$EarlyStages", "aboveGreen", "(LRawPictures$Sheet;LRawPictures$Sheet;II)I"⟩, 1)]
theorem lw_r1 : ∀ q ∈ lw_privs_1, lw_okq q := List.forall_mem_cons.mpr ⟨lw_p0, List.forall_mem_cons.mpr ⟨lw_p1, List.forall_mem_cons.mpr ⟨lw_p2, List.forall_mem_cons.mpr ⟨lw_p3, List.forall_mem_cons.mpr ⟨lw_p4, List.forall_mem_cons.mpr ⟨lw_p5, List.forall_mem_cons.mpr ⟨lw_p6, List.forall_mem_cons.mpr ⟨lw_p7, List.forall_mem_cons.mpr ⟨lw_p8, List.forall_mem_cons.mpr ⟨lw_p9, List.forall_mem_cons.mpr ⟨lw_p10, List.forall_mem_cons.mpr ⟨lw_p11, List.forall_mem_cons.mpr ⟨lw_p12, List.forall_mem_cons.mpr ⟨lw_p13, List.forall_mem_cons.mpr ⟨lw_p14, List.forall_mem_cons.mpr ⟨lw_p15, fun _ h => absurd h List.not_mem_nil⟩⟩⟩⟩⟩⟩⟩⟩⟩⟩⟩⟩⟩⟩⟩⟩
theorem lw_p16 : lw_okq (⟨"RawPictures$LateStages", "voteColour", "([II)V"⟩, 7) := ⟨⟨by decide +kernel, by decide +kernel⟩, List.mem_of_getElem? (i := 190) (by decide +kernel), List.mem_of_getElem? (i := 761) (by decide +kernel), List.mem_of_getElem? (i := 762) (by decide +kernel)⟩
theorem lw_p17 : lw_okq (⟨"RawPictures$LateStages", "medianAt", "([IIII)I"⟩, 7) := ⟨⟨by decide +kernel, by decide +kernel⟩, List.mem_of_getElem? (i := 190) (by decide +kernel), List.mem_of_getElem? (i := 765) (by decide +kernel), List.mem_of_getElem? (i := 766) (by decide +kernel)⟩
theorem lw_p18 : lw_okq (⟨"RawPictures$LateStages", "isGrey", "([III)Z"⟩, 7) := ⟨⟨by decide +kernel, by decide +kernel⟩, List.mem_of_getElem? (i := 190) (by decide +kernel), List.mem_of_getElem? (i := 775) (by decide +kernel), List.mem_of_getElem? (i := 776) (by decide +kernel)⟩
theorem lw_p19 : lw_okq (⟨"RawPictures$LateStages", "gainOf", "(II)I"⟩, 7) := ⟨⟨by decide +kernel, by decide +kernel⟩, List.mem_of_getElem? (i := 190) (by decide +kernel), List.mem_of_getElem? (i := 785) (by decide +kernel), List.mem_of_getElem? (i := 786) (by decide +kernel)⟩
theorem lw_p20 : lw_okq (⟨"RawPictures$LateStages", "multiplyColour", "(LRawPictures$Sheet;LRawPictures$Sheet;III)V"⟩, 7) := ⟨⟨by decide +kernel, by decide +kernel⟩, List.mem_of_getElem? (i := 190) (by decide +kernel), List.mem_of_getElem? (i := 795) (by decide +kernel), List.mem_of_getElem? (i := 796) (by decide +kernel)⟩
theorem lw_p21 : lw_okq (⟨"RawPictures$LateStages", "paled", "(III)I"⟩, 7) := ⟨⟨by decide +kernel, by decide +kernel⟩, List.mem_of_getElem? (i := 190) (by decide +kernel), List.mem_of_getElem? (i := 810) (by decide +kernel), List.mem_of_getElem? (i := 811) (by decide +kernel)⟩
theorem lw_p22 : lw_okq (⟨"RawPictures$LateStages", "bent", "(ILRawPictures$Recipe;I)I"⟩, 7) := ⟨⟨by decide +kernel, by decide +kernel⟩, List.mem_of_getElem? (i := 190) (by decide +kernel), List.mem_of_getElem? (i := 818) (by decide +kernel), List.mem_of_getElem? (i := 819) (by decide +kernel)⟩
theorem lw_p23 : lw_okq (⟨"RawPictures$LateStages", "layBase", "(LRawPictures$Sheet;III)V"⟩, 7) := ⟨⟨by decide +kernel, by decide +kernel⟩, List.mem_of_getElem? (i := 190) (by decide +kernel), List.mem_of_getElem? (i := 832) (by decide +kernel), List.mem_of_getElem? (i := 833) (by decide +kernel)⟩
theorem lw_p24 : lw_okq (⟨"RawPictures$LateStages", "addToAll", "(LRawPictures$Sheet;LRawPictures$Sheet;II)V"⟩, 7) := ⟨⟨by decide +kernel, by decide +kernel⟩, List.mem_of_getElem? (i := 190) (by decide +kernel), List.mem_of_getElem? (i := 836) (by decide +kernel), List.mem_of_getElem? (i := 837) (by decide +kernel)⟩
theorem lw_p25 : lw_okq (⟨"RawPictures$LateStages", "buildFloor", "([I[III)V"⟩, 7) := ⟨⟨by decide +kernel, by decide +kernel⟩, List.mem_of_getElem? (i := 190) (by decide +kernel), List.mem_of_getElem? (i := 848) (by decide +kernel), List.mem_of_getElem? (i := 849) (by decide +kernel)⟩
theorem lw_p26 : lw_okq (⟨"RawPictures", "markFound", "(I)V"⟩, 13) := ⟨⟨by decide +kernel, by decide +kernel⟩, List.mem_of_getElem? (i := 24) (by decide +kernel), List.mem_of_getElem? (i := 886) (by decide +kernel), List.mem_of_getElem? (i := 887) (by decide +kernel)⟩
theorem lw_p27 : lw_okq (⟨"RawPictures$Clumps", "take", "(IIZ)I"⟩, 8) := ⟨⟨by decide +kernel, by decide +kernel⟩, List.mem_of_getElem? (i := 306) (by decide +kernel), List.mem_of_getElem? (i := 922) (by decide +kernel), List.mem_of_getElem? (i := 923) (by decide +kernel)⟩
theorem lw_p28 : lw_okq (⟨"RawPictures$Clumps", "enqueue", "(II)V"⟩, 8) := ⟨⟨by decide +kernel, by decide +kernel⟩, List.mem_of_getElem? (i := 306) (by decide +kernel), List.mem_of_getElem? (i := 926) (by decide +kernel), List.mem_of_getElem? (i := 927) (by decide +kernel)⟩
theorem lw_p29 : lw_okq (⟨"RawPictures", "isLeftOf", "(II)Z"⟩, 13) := ⟨⟨by decide +kernel, by decide +kernel⟩, List.mem_of_getElem? (i := 24) (by decide +kernel), List.mem_of_getElem? (i := 975) (by decide +kernel), List.mem_of_getElem? (i := 976) (by decide +kernel)⟩
theorem lw_p30 : lw_okq (⟨"RawPictures$Meter", "ringOf", "(II)I"⟩, 12) := ⟨⟨by decide +kernel, by decide +kernel⟩, List.mem_of_getElem? (i := 253) (by decide +kernel), List.mem_of_getElem? (i := 987) (by decide +kernel), List.mem_of_getElem? (i := 988) (by decide +kernel)⟩
theorem lw_p31 : lw_okq (⟨"RawPictures$Meter", "digitsOf", "(I)I"⟩, 12) := ⟨⟨by decide +kernel, by decide +kernel⟩, List.mem_of_getElem? (i := 253) (by decide +kernel), List.mem_of_getElem? (i := 1056) (by decide +kernel), List.mem_of_getElem? (i := 1057) (by decide +kernel)⟩
def lw_privs_2 : List (MethodName × Nat) := [(⟨"RawPictures$LateStages", "voteColour", "([II)V"⟩, 7), (⟨"RawPictures$LateStages", "medianAt", "([IIII)I"⟩, 7), (⟨"RawPictures$LateStages", "isGrey", "([III)Z"⟩, 7), (⟨"RawPictures$LateStages", "gainOf", "(II)I"⟩, 7), (⟨"RawPictures$LateStages", "multiplyColour", "(LRawPictures$Sheet;LRawPictures$Sheet;III)V"⟩, 7), (⟨"RawPictures$LateStages", "paled", "(III)I"⟩, 7), (⟨"RawPictures$LateStages", "bent", "(ILRawPictures$Recipe;I)I"⟩, 7), (⟨"RawPictures$LateStages", "layBase", "(LRawPictures$Sheet;III)V"⟩, 7), (⟨"RawPictures$LateStages", "addToAll", "(LRawPictures$Sheet;LRawPictures$Sheet;II)V"⟩, 7), (⟨"RawPictures$LateStages", "buildFloor", "([I[III)V"⟩, 7), (⟨"RawPictures", "markFound", "(I)V"⟩, 13), (⟨"RawPictures$Clumps", "take", "(IIZ)I"⟩, 8), (⟨"RawPictures$Clumps", "enqueue", "(II)V"⟩, 8), (⟨"RawPictures", "isLeftOf", "(II)Z"⟩, 13), (⟨"RawPictures$Meter", "ringOf", "(II)I"⟩, 12), (⟨"RawPictures$Meter", "digitsOf", "(I)I"⟩, 12)]
theorem lw_r2 : ∀ q ∈ lw_privs_2, lw_okq q := List.forall_mem_cons.mpr ⟨lw_p16, List.forall_mem_cons.mpr ⟨lw_p17, List.forall_mem_cons.mpr ⟨lw_p18, List.forall_mem_cons.mpr ⟨lw_p19, List.forall_mem_cons.mpr ⟨lw_p20, List.forall_mem_cons.mpr ⟨lw_p21, List.forall_mem_cons.mpr ⟨lw_p22, List.forall_mem_cons.mpr ⟨lw_p23, List.forall_mem_cons.mpr ⟨lw_p24, List.forall_mem_cons.mpr ⟨lw_p25, List.forall_mem_cons.mpr ⟨lw_p26, List.forall_mem_cons.mpr ⟨lw_p27, List.forall_mem_cons.mpr ⟨lw_p28, List.forall_mem_cons.mpr ⟨lw_p29, List.forall_mem_cons.mpr ⟨lw_p30, List.forall_mem_cons.mpr ⟨lw_p31, fun _ h => absurd h List.not_mem_nil⟩⟩⟩⟩⟩⟩⟩⟩⟩⟩⟩⟩⟩⟩⟩⟩
theorem lw_p32 : lw_okq (⟨"RawPictures$Meter", "lightAt", "(LRawPictures$Sheet;II)I"⟩, 12) := ⟨⟨by decide +kernel, by decide +kernel⟩, List.mem_of_getElem? (i := 253) (by decide +kernel), List.mem_of_getElem? (i := 1073) (by decide +kernel), List.mem_of_getElem? (i := 1074) (by decide +kernel)⟩
theorem lw_p33 : lw_okq (⟨"RawPictures", "badness", "(LRawPictures$Sheet;I)J"⟩, 13) := ⟨⟨by decide +kernel, by decide +kernel⟩, List.mem_of_getElem? (i := 24) (by decide +kernel), List.mem_of_getElem? (i := 1136) (by decide +kernel), List.mem_of_getElem? (i := 1137) (by decide +kernel)⟩
theorem lw_p34 : lw_okq (⟨"RawPicturesModel", "types", "(I)V"⟩, 54) := ⟨⟨by decide +kernel, by decide +kernel⟩, List.mem_of_getElem? (i := 1166) (by decide +kernel), List.mem_of_getElem? (i := 1340) (by decide +kernel), List.mem_of_getElem? (i := 1341) (by decide +kernel)⟩
theorem lw_p35 : lw_okq (⟨"RawPicturesModel", "readsStage", "()Z"⟩, 54) := ⟨⟨by decide +kernel, by decide +kernel⟩, List.mem_of_getElem? (i := 1166) (by decide +kernel), List.mem_of_getElem? (i := 1351) (by decide +kernel), List.mem_of_getElem? (i := 1352) (by decide +kernel)⟩
theorem lw_p36 : lw_okq (⟨"RawPicturesModel", "here", "()I"⟩, 54) := ⟨⟨by decide +kernel, by decide +kernel⟩, List.mem_of_getElem? (i := 1166) (by decide +kernel), List.mem_of_getElem? (i := 1355) (by decide +kernel), List.mem_of_getElem? (i := 1356) (by decide +kernel)⟩
theorem lw_p37 : lw_okq (⟨"RawPicturesModel", "wrongAt", "(II)Z"⟩, 54) := ⟨⟨by decide +kernel, by decide +kernel⟩, List.mem_of_getElem? (i := 1166) (by decide +kernel), List.mem_of_getElem? (i := 1365) (by decide +kernel), List.mem_of_getElem? (i := 1366) (by decide +kernel)⟩
theorem lw_p38 : lw_okq (⟨"RawPicturesModel", "isFilledSoFar", "()Z"⟩, 54) := ⟨⟨by decide +kernel, by decide +kernel⟩, List.mem_of_getElem? (i := 1166) (by decide +kernel), List.mem_of_getElem? (i := 1369) (by decide +kernel), List.mem_of_getElem? (i := 1370) (by decide +kernel)⟩
theorem lw_p39 : lw_okq (⟨"RawPicturesModel", "takesSign", "(I)Z"⟩, 54) := ⟨⟨by decide +kernel, by decide +kernel⟩, List.mem_of_getElem? (i := 1166) (by decide +kernel), List.mem_of_getElem? (i := 1373) (by decide +kernel), List.mem_of_getElem? (i := 1374) (by decide +kernel)⟩
theorem lw_p40 : lw_okq (⟨"RawPicturesModel", "readsNumbers", "(I)Z"⟩, 54) := ⟨⟨by decide +kernel, by decide +kernel⟩, List.mem_of_getElem? (i := 1166) (by decide +kernel), List.mem_of_getElem? (i := 1377) (by decide +kernel), List.mem_of_getElem? (i := 1378) (by decide +kernel)⟩
theorem lw_p41 : lw_okq (⟨"RawPicturesModel", "readsNumber", "(II)Z"⟩, 54) := ⟨⟨by decide +kernel, by decide +kernel⟩, List.mem_of_getElem? (i := 1166) (by decide +kernel), List.mem_of_getElem? (i := 1381) (by decide +kernel), List.mem_of_getElem? (i := 1382) (by decide +kernel)⟩
theorem lw_p42 : lw_okq (⟨"RawPicturesModel", "readsNext", "(II)Z"⟩, 54) := ⟨⟨by decide +kernel, by decide +kernel⟩, List.mem_of_getElem? (i := 1166) (by decide +kernel), List.mem_of_getElem? (i := 1388) (by decide +kernel), List.mem_of_getElem? (i := 1389) (by decide +kernel)⟩
theorem lw_p43 : lw_okq (⟨"RawPicturesModel", "readsCurve", "()Z"⟩, 54) := ⟨⟨by decide +kernel, by decide +kernel⟩, List.mem_of_getElem? (i := 1166) (by decide +kernel), List.mem_of_getElem? (i := 1392) (by decide +kernel), List.mem_of_getElem? (i := 1393) (by decide +kernel)⟩
theorem lw_p44 : lw_okq (⟨"RawPicturesModel", "isStage", "(I)Z"⟩, 54) := ⟨⟨by decide +kernel, by decide +kernel⟩, List.mem_of_getElem? (i := 1166) (by decide +kernel), List.mem_of_getElem? (i := 1403) (by decide +kernel), List.mem_of_getElem? (i := 1404) (by decide +kernel)⟩
theorem lw_p45 : lw_okq (⟨"RawPicturesModel", "numberMany", "(I)I"⟩, 54) := ⟨⟨by decide +kernel, by decide +kernel⟩, List.mem_of_getElem? (i := 1166) (by decide +kernel), List.mem_of_getElem? (i := 1407) (by decide +kernel), List.mem_of_getElem? (i := 1408) (by decide +kernel)⟩
theorem lw_p46 : lw_okq (⟨"RawPicturesModel", "numberOf", "(II)I"⟩, 54) := ⟨⟨by decide +kernel, by decide +kernel⟩, List.mem_of_getElem? (i := 1166) (by decide +kernel), List.mem_of_getElem? (i := 1411) (by decide +kernel), List.mem_of_getElem? (i := 1412) (by decide +kernel)⟩
theorem lw_p47 : lw_okq (⟨"RawPicturesModel", "changed", "()V"⟩, 54) := ⟨⟨by decide +kernel, by decide +kernel⟩, List.mem_of_getElem? (i := 1166) (by decide +kernel), List.mem_of_getElem? (i := 1419) (by decide +kernel), List.mem_of_getElem? (i := 1420) (by decide +kernel)⟩
def lw_privs_3 : List (MethodName × Nat) := [(⟨"RawPictures$Meter", "lightAt", "(LRawPictures$Sheet;II)I"⟩, 12), (⟨"RawPictures", "badness", "(LRawPictures$Sheet;I)J"⟩, 13), (⟨"RawPicturesModel", "types", "(I)V"⟩, 54), (⟨"RawPicturesModel", "readsStage", "()Z"⟩, 54), (⟨"RawPicturesModel", "here", "()I"⟩, 54), (⟨"RawPicturesModel", "wrongAt", "(II)Z"⟩, 54), (⟨"RawPicturesModel", "isFilledSoFar", "()Z"⟩, 54), (⟨"RawPicturesModel", "takesSign", "(I)Z"⟩, 54), (⟨"RawPicturesModel", "readsNumbers", "(I)Z"⟩, 54), (⟨"RawPicturesModel", "readsNumber", "(II)Z"⟩, 54), (⟨"RawPicturesModel", "readsNext", "(II)Z"⟩, 54), (⟨"RawPicturesModel", "readsCurve", "()Z"⟩, 54), (⟨"RawPicturesModel", "isStage", "(I)Z"⟩, 54), (⟨"RawPicturesModel", "numberMany", "(I)I"⟩, 54), (⟨"RawPicturesModel", "numberOf", "(II)I"⟩, 54), (⟨"RawPicturesModel", "changed", "()V"⟩, 54)]
theorem lw_r3 : ∀ q ∈ lw_privs_3, lw_okq q := List.forall_mem_cons.mpr ⟨lw_p32, List.forall_mem_cons.mpr ⟨lw_p33, List.forall_mem_cons.mpr ⟨lw_p34, List.forall_mem_cons.mpr ⟨lw_p35, List.forall_mem_cons.mpr ⟨lw_p36, List.forall_mem_cons.mpr ⟨lw_p37, List.forall_mem_cons.mpr ⟨lw_p38, List.forall_mem_cons.mpr ⟨lw_p39, List.forall_mem_cons.mpr ⟨lw_p40, List.forall_mem_cons.mpr ⟨lw_p41, List.forall_mem_cons.mpr ⟨lw_p42, List.forall_mem_cons.mpr ⟨lw_p43, List.forall_mem_cons.mpr ⟨lw_p44, List.forall_mem_cons.mpr ⟨lw_p45, List.forall_mem_cons.mpr ⟨lw_p46, List.forall_mem_cons.mpr ⟨lw_p47, fun _ h => absurd h List.not_mem_nil⟩⟩⟩⟩⟩⟩⟩⟩⟩⟩⟩⟩⟩⟩⟩⟩
theorem lw_p48 : lw_okq (⟨"RawPicturesModel", "isSquare", "(II)Z"⟩, 54) := ⟨⟨by decide +kernel, by decide +kernel⟩, List.mem_of_getElem? (i := 1166) (by decide +kernel), List.mem_of_getElem? (i := 1431) (by decide +kernel), List.mem_of_getElem? (i := 1432) (by decide +kernel)⟩
theorem lw_p49 : lw_okq (⟨"RawPicturesModel", "deadMany", "()I"⟩, 54) := ⟨⟨by decide +kernel, by decide +kernel⟩, List.mem_of_getElem? (i := 1166) (by decide +kernel), List.mem_of_getElem? (i := 1439) (by decide +kernel), List.mem_of_getElem? (i := 1440) (by decide +kernel)⟩
theorem lw_p50 : lw_okq (⟨"RawPicturesModel", "sceneAt", "(IIIII)I"⟩, 54) := ⟨⟨by decide +kernel, by decide +kernel⟩, List.mem_of_getElem? (i := 1166) (by decide +kernel), List.mem_of_getElem? (i := 1447) (by decide +kernel), List.mem_of_getElem? (i := 1448) (by decide +kernel)⟩
theorem lw_p51 : lw_okq (⟨"RawPicturesModel", "colourAt", "(II)I"⟩, 54) := ⟨⟨by decide +kernel, by decide +kernel⟩, List.mem_of_getElem? (i := 1166) (by decide +kernel), List.mem_of_getElem? (i := 1452) (by decide +kernel), List.mem_of_getElem? (i := 1453) (by decide +kernel)⟩
theorem lw_p52 : lw_okq (⟨"RawPicturesModel", "truthAt", "(IIII)I"⟩, 54) := ⟨⟨by decide +kernel, by decide +kernel⟩, List.mem_of_getElem? (i := 1166) (by decide +kernel), List.mem_of_getElem? (i := 1460) (by decide +kernel), List.mem_of_getElem? (i := 1461) (by decide +kernel)⟩
theorem lw_p53 : lw_okq (⟨"RawPicturesModel", "isRow", "(I)Z"⟩, 54) := ⟨⟨by decide +kernel, by decide +kernel⟩, List.mem_of_getElem? (i := 1166) (by decide +kernel), List.mem_of_getElem? (i := 1476) (by decide +kernel), List.mem_of_getElem? (i := 1477) (by decide +kernel)⟩
theorem lw_p54 : lw_okq (⟨"RawPicturesModel", "leaves", "()V"⟩, 54) := ⟨⟨by decide +kernel, by decide +kernel⟩, List.mem_of_getElem? (i := 1166) (by decide +kernel), List.mem_of_getElem? (i := 1480) (by decide +kernel), List.mem_of_getElem? (i := 1481) (by decide +kernel)⟩
theorem lw_p55 : lw_okq (⟨"RawPicturesModel", "laysOwn", "(IIII)V"⟩, 54) := ⟨⟨by decide +kernel, by decide +kernel⟩, List.mem_of_getElem? (i := 1166) (by decide +kernel), List.mem_of_getElem? (i := 1484) (by decide +kernel), List.mem_of_getElem? (i := 1485) (by decide +kernel)⟩
theorem lw_p56 : lw_okq (⟨"RawPicturesModel", "lays", "(IIIII)V"⟩, 54) := ⟨⟨by decide +kernel, by decide +kernel⟩, List.mem_of_getElem? (i := 1166) (by decide +kernel), List.mem_of_getElem? (i := 1497) (by decide +kernel), List.mem_of_getElem? (i := 1498) (by decide +kernel)⟩
theorem lw_p57 : lw_okq (⟨"RawPicturesModel", "does", "(III)V"⟩, 54) := ⟨⟨by decide +kernel, by decide +kernel⟩, List.mem_of_getElem? (i := 1166) (by decide +kernel), List.mem_of_getElem? (i := 1501) (by decide +kernel), List.mem_of_getElem? (i := 1502) (by decide +kernel)⟩
theorem lw_p58 : lw_okq (⟨"RawPicturesModel", "fills", "(III)V"⟩, 54) := ⟨⟨by decide +kernel, by decide +kernel⟩, List.mem_of_getElem? (i := 1166) (by decide +kernel), List.mem_of_getElem? (i := 1505) (by decide +kernel), List.mem_of_getElem? (i := 1506) (by decide +kernel)⟩
theorem lw_p59 : lw_okq (⟨"RawPicturesModel", "greenOf", "(IIII)I"⟩, 54) := ⟨⟨by decide +kernel, by decide +kernel⟩, List.mem_of_getElem? (i := 1166) (by decide +kernel), List.mem_of_getElem? (i := 1509) (by decide +kernel), List.mem_of_getElem? (i := 1510) (by decide +kernel)⟩
theorem lw_p60 : lw_okq (⟨"RawPicturesModel", "own", "(III)I"⟩, 54) := ⟨⟨by decide +kernel, by decide +kernel⟩, List.mem_of_getElem? (i := 1166) (by decide +kernel), List.mem_of_getElem? (i := 1513) (by decide +kernel), List.mem_of_getElem? (i := 1514) (by decide +kernel)⟩
theorem lw_p61 : lw_okq (⟨"RawPicturesModel", "wayOf", "(III)I"⟩, 54) := ⟨⟨by decide +kernel, by decide +kernel⟩, List.mem_of_getElem? (i := 1166) (by decide +kernel), List.mem_of_getElem? (i := 1520) (by decide +kernel), List.mem_of_getElem? (i := 1521) (by decide +kernel)⟩
theorem lw_p62 : lw_okq (⟨"RawPicturesModel", "otherOf", "(IIIII)I"⟩, 54) := ⟨⟨by decide +kernel, by decide +kernel⟩, List.mem_of_getElem? (i := 1166) (by decide +kernel), List.mem_of_getElem? (i := 1527) (by decide +kernel), List.mem_of_getElem? (i := 1528) (by decide +kernel)⟩
theorem lw_p63 : lw_okq (⟨"RawPicturesModel", "at", "(IIII)I"⟩, 54) := ⟨⟨by decide +kernel, by decide +kernel⟩, List.mem_of_getElem? (i := 1166) (by decide +kernel), List.mem_of_getElem? (i := 1531) (by decide +kernel), List.mem_of_getElem? (i := 1532) (by decide +kernel)⟩
def lw_privs_4 : List (MethodName × Nat) := [(⟨"RawPicturesModel", "isSquare", "(II)Z"⟩, 54), (⟨"RawPicturesModel", "deadMany", "()I"⟩, 54), (⟨"RawPicturesModel", "sceneAt", "(IIIII)I"⟩, 54), (⟨"RawPicturesModel", "colourAt", "(II)I"⟩, 54), (⟨"RawPicturesModel", "truthAt", "(IIII)I"⟩, 54), (⟨"RawPicturesModel", "isRow", "(I)Z"⟩, 54), (⟨"RawPicturesModel", "leaves", "()V"⟩, 54), (⟨"RawPicturesModel", "laysOwn", "(IIII)V"⟩, 54), (⟨"RawPicturesModel", "lays", "(IIIII)V"⟩, 54), (⟨"RawPicturesModel", "does", "(III)V"⟩, 54), (⟨"RawPicturesModel", "fills", "(III)V"⟩, 54), (⟨"RawPicturesModel", "greenOf", "(IIII)I"⟩, 54), (⟨"RawPicturesModel", "own", "(III)I"⟩, 54), (⟨"RawPicturesModel", "wayOf", "(III)I"⟩, 54), (⟨"RawPicturesModel", "otherOf", "(IIIII)I"⟩, 54), (⟨"RawPicturesModel", "at", "(IIII)I"⟩, 54)]
theorem lw_r4 : ∀ q ∈ lw_privs_4, lw_okq q := List.forall_mem_cons.mpr ⟨lw_p48, List.forall_mem_cons.mpr ⟨lw_p49, List.forall_mem_cons.mpr ⟨lw_p50, List.forall_mem_cons.mpr ⟨lw_p51, List.forall_mem_cons.mpr ⟨lw_p52, List.forall_mem_cons.mpr ⟨lw_p53, List.forall_mem_cons.mpr ⟨lw_p54, List.forall_mem_cons.mpr ⟨lw_p55, List.forall_mem_cons.mpr ⟨lw_p56, List.forall_mem_cons.mpr ⟨lw_p57, List.forall_mem_cons.mpr ⟨lw_p58, List.forall_mem_cons.mpr ⟨lw_p59, List.forall_mem_cons.mpr ⟨lw_p60, List.forall_mem_cons.mpr ⟨lw_p61, List.forall_mem_cons.mpr ⟨lw_p62, List.forall_mem_cons.mpr ⟨lw_p63, fun _ h => absurd h List.not_mem_nil⟩⟩⟩⟩⟩⟩⟩⟩⟩⟩⟩⟩⟩⟩⟩⟩
theorem lw_p64 : lw_okq (⟨"RawPicturesModel", "over", "(IIII)I"⟩, 54) := ⟨⟨by decide +kernel, by decide +kernel⟩, List.mem_of_getElem? (i := 1166) (by decide +kernel), List.mem_of_getElem? (i := 1535) (by decide +kernel), List.mem_of_getElem? (i := 1536) (by decide +kernel)⟩
theorem lw_p65 : lw_okq (⟨"RawPicturesModel", "early", "(IIII)V"⟩, 54) := ⟨⟨by decide +kernel, by decide +kernel⟩, List.mem_of_getElem? (i := 1166) (by decide +kernel), List.mem_of_getElem? (i := 1539) (by decide +kernel), List.mem_of_getElem? (i := 1540) (by decide +kernel)⟩
theorem lw_p66 : lw_okq (⟨"RawPicturesModel", "darkOf", "(III)I"⟩, 54) := ⟨⟨by decide +kernel, by decide +kernel⟩, List.mem_of_getElem? (i := 1166) (by decide +kernel), List.mem_of_getElem? (i := 1543) (by decide +kernel), List.mem_of_getElem? (i := 1544) (by decide +kernel)⟩
theorem lw_p67 : lw_okq (⟨"RawPicturesModel", "isFound", "(IIII)Z"⟩, 54) := ⟨⟨by decide +kernel, by decide +kernel⟩, List.mem_of_getElem? (i := 1166) (by decide +kernel), List.mem_of_getElem? (i := 1547) (by decide +kernel), List.mem_of_getElem? (i := 1548) (by decide +kernel)⟩
theorem lw_p68 : lw_okq (⟨"RawPicturesModel", "middleOf", "(III)I"⟩, 54) := ⟨⟨by decide +kernel, by decide +kernel⟩, List.mem_of_getElem? (i := 1166) (by decide +kernel), List.mem_of_getElem? (i := 1551) (by decide +kernel), List.mem_of_getElem? (i := 1552) (by decide +kernel)⟩
theorem lw_p69 : lw_okq (⟨"RawPicturesModel", "shaded", "(IIII)I"⟩, 54) := ⟨⟨by decide +kernel, by decide +kernel⟩, List.mem_of_getElem? (i := 1166) (by decide +kernel), List.mem_of_getElem? (i := 1558) (by decide +kernel), List.mem_of_getElem? (i := 1559) (by decide +kernel)⟩
theorem lw_p70 : lw_okq (⟨"RawPicturesModel", "votes", "(III)V"⟩, 54) := ⟨⟨by decide +kernel, by decide +kernel⟩, List.mem_of_getElem? (i := 1166) (by decide +kernel), List.mem_of_getElem? (i := 1562) (by decide +kernel), List.mem_of_getElem? (i := 1563) (by decide +kernel)⟩
theorem lw_p71 : lw_okq (⟨"RawPicturesModel", "median", "(IIII)I"⟩, 54) := ⟨⟨by decide +kernel, by decide +kernel⟩, List.mem_of_getElem? (i := 1166) (by decide +kernel), List.mem_of_getElem? (i := 1566) (by decide +kernel), List.mem_of_getElem? (i := 1567) (by decide +kernel)⟩
theorem lw_p72 : lw_okq (⟨"RawPicturesModel", "late", "(IIIII)V"⟩, 54) := ⟨⟨by decide +kernel, by decide +kernel⟩, List.mem_of_getElem? (i := 1166) (by decide +kernel), List.mem_of_getElem? (i := 1570) (by decide +kernel), List.mem_of_getElem? (i := 1571) (by decide +kernel)⟩
theorem lw_p73 : lw_okq (⟨"RawPicturesModel", "findsWhite", "(II)V"⟩, 54) := ⟨⟨by decide +kernel, by decide +kernel⟩, List.mem_of_getElem? (i := 1166) (by decide +kernel), List.mem_of_getElem? (i := 1574) (by decide +kernel), List.mem_of_getElem? (i := 1575) (by decide +kernel)⟩
theorem lw_p74 : lw_okq (⟨"RawPicturesModel", "greatest", "(III)I"⟩, 54) := ⟨⟨by decide +kernel, by decide +kernel⟩, List.mem_of_getElem? (i := 1166) (by decide +kernel), List.mem_of_getElem? (i := 1578) (by decide +kernel), List.mem_of_getElem? (i := 1579) (by decide +kernel)⟩
theorem lw_p75 : lw_okq (⟨"RawPicturesModel", "smallest", "(III)I"⟩, 54) := ⟨⟨by decide +kernel, by decide +kernel⟩, List.mem_of_getElem? (i := 1166) (by decide +kernel), List.mem_of_getElem? (i := 1582) (by decide +kernel), List.mem_of_getElem? (i := 1583) (by decide +kernel)⟩
theorem lw_p76 : lw_okq (⟨"RawPicturesModel", "findsMean", "(I)V"⟩, 54) := ⟨⟨by decide +kernel, by decide +kernel⟩, List.mem_of_getElem? (i := 1166) (by decide +kernel), List.mem_of_getElem? (i := 1586) (by decide +kernel), List.mem_of_getElem? (i := 1587) (by decide +kernel)⟩
theorem lw_p77 : lw_okq (⟨"RawPicturesModel", "lightAt", "(III)I"⟩, 54) := ⟨⟨by decide +kernel, by decide +kernel⟩, List.mem_of_getElem? (i := 1166) (by decide +kernel), List.mem_of_getElem? (i := 1590) (by decide +kernel), List.mem_of_getElem? (i := 1591) (by decide +kernel)⟩
theorem lw_p78 : lw_okq (⟨"RawPicturesModel", "findsFloors", "(I)V"⟩, 54) := ⟨⟨by decide +kernel, by decide +kernel⟩, List.mem_of_getElem? (i := 1166) (by decide +kernel), List.mem_of_getElem? (i := 1594) (by decide +kernel), List.mem_of_getElem? (i := 1595) (by decide +kernel)⟩
theorem lw_p79 : lw_okq (⟨"RawPicturesModel", "together", "(IIIII)I"⟩, 54) := ⟨⟨by decide +kernel, by decide +kernel⟩, List.mem_of_getElem? (i := 1166) (by decide +kernel), List.mem_of_getElem? (i := 1598) (by decide +kernel), List.mem_of_getElem? (i := 1599) (by decide +kernel)⟩
def lw_privs_5 : List (MethodName × Nat) := [(⟨"RawPicturesModel", "over", "(IIII)I"⟩, 54), (⟨"RawPicturesModel", "early", "(IIII)V"⟩, 54), (⟨"RawPicturesModel", "darkOf", "(III)I"⟩, 54), (⟨"RawPicturesModel", "isFound", "(IIII)Z"⟩, 54), (⟨"RawPicturesModel", "middleOf", "(III)I"⟩, 54), (⟨"RawPicturesModel", "shaded", "(IIII)I"⟩, 54), (⟨"RawPicturesModel", "votes", "(III)V"⟩, 54), (⟨"RawPicturesModel", "median", "(IIII)I"⟩, 54), (⟨"RawPicturesModel", "late", "(IIIII)V"⟩, 54), (⟨"RawPicturesModel", "findsWhite", "(II)V"⟩, 54), (⟨"RawPicturesModel", "greatest", "(III)I"⟩, 54), (⟨"RawPicturesModel", "smallest", "(III)I"⟩, 54), (⟨"RawPicturesModel", "findsMean", "(I)V"⟩, 54), (⟨"RawPicturesModel", "lightAt", "(III)I"⟩, 54), (⟨"RawPicturesModel", "findsFloors", "(I)V"⟩, 54), (⟨"RawPicturesModel", "together", "(IIIII)I"⟩, 54)]
theorem lw_r5 : ∀ q ∈ lw_privs_5, lw_okq q := List.forall_mem_cons.mpr ⟨lw_p64, List.forall_mem_cons.mpr ⟨lw_p65, List.forall_mem_cons.mpr ⟨lw_p66, List.forall_mem_cons.mpr ⟨lw_p67, List.forall_mem_cons.mpr ⟨lw_p68, List.forall_mem_cons.mpr ⟨lw_p69, List.forall_mem_cons.mpr ⟨lw_p70, List.forall_mem_cons.mpr ⟨lw_p71, List.forall_mem_cons.mpr ⟨lw_p72, List.forall_mem_cons.mpr ⟨lw_p73, List.forall_mem_cons.mpr ⟨lw_p74, List.forall_mem_cons.mpr ⟨lw_p75, List.forall_mem_cons.mpr ⟨lw_p76, List.forall_mem_cons.mpr ⟨lw_p77, List.forall_mem_cons.mpr ⟨lw_p78, List.forall_mem_cons.mpr ⟨lw_p79, fun _ h => absurd h List.not_mem_nil⟩⟩⟩⟩⟩⟩⟩⟩⟩⟩⟩⟩⟩⟩⟩⟩
theorem lw_p80 : lw_okq (⟨"RawPicturesModel", "lateAt", "(IIIIIII)I"⟩, 54) := ⟨⟨by decide +kernel, by decide +kernel⟩, List.mem_of_getElem? (i := 1166) (by decide +kernel), List.mem_of_getElem? (i := 1602) (by decide +kernel), List.mem_of_getElem? (i := 1603) (by decide +kernel)⟩
theorem lw_p81 : lw_okq (⟨"RawPicturesModel", "gained", "(II)I"⟩, 54) := ⟨⟨by decide +kernel, by decide +kernel⟩, List.mem_of_getElem? (i := 1166) (by decide +kernel), List.mem_of_getElem? (i := 1606) (by decide +kernel), List.mem_of_getElem? (i := 1607) (by decide +kernel)⟩
theorem lw_p82 : lw_okq (⟨"RawPicturesModel", "paled", "(IIIII)I"⟩, 54) := ⟨⟨by decide +kernel, by decide +kernel⟩, List.mem_of_getElem? (i := 1166) (by decide +kernel), List.mem_of_getElem? (i := 1610) (by decide +kernel), List.mem_of_getElem? (i := 1611) (by decide +kernel)⟩
theorem lw_p83 : lw_okq (⟨"RawPicturesModel", "curved", "(III)I"⟩, 54) := ⟨⟨by decide +kernel, by decide +kernel⟩, List.mem_of_getElem? (i := 1166) (by decide +kernel), List.mem_of_getElem? (i := 1614) (by decide +kernel), List.mem_of_getElem? (i := 1615) (by decide +kernel)⟩
theorem lw_p84 : lw_okq (⟨"RawPicturesModel", "baseOf", "(IIII)I"⟩, 54) := ⟨⟨by decide +kernel, by decide +kernel⟩, List.mem_of_getElem? (i := 1166) (by decide +kernel), List.mem_of_getElem? (i := 1618) (by decide +kernel), List.mem_of_getElem? (i := 1619) (by decide +kernel)⟩
theorem lw_p85 : lw_okq (⟨"RawPicturesModel", "toneAt", "(III)I"⟩, 54) := ⟨⟨by decide +kernel, by decide +kernel⟩, List.mem_of_getElem? (i := 1166) (by decide +kernel), List.mem_of_getElem? (i := 1622) (by decide +kernel), List.mem_of_getElem? (i := 1623) (by decide +kernel)⟩
theorem lw_p86 : lw_okq (⟨"RawPicturesModel", "floorAt", "(III)I"⟩, 54) := ⟨⟨by decide +kernel, by decide +kernel⟩, List.mem_of_getElem? (i := 1166) (by decide +kernel), List.mem_of_getElem? (i := 1626) (by decide +kernel), List.mem_of_getElem? (i := 1627) (by decide +kernel)⟩
theorem lw_p87 : lw_okq (⟨"RawPicturesModel", "calmed", "(IIIIII)I"⟩, 54) := ⟨⟨by decide +kernel, by decide +kernel⟩, List.mem_of_getElem? (i := 1166) (by decide +kernel), List.mem_of_getElem? (i := 1630) (by decide +kernel), List.mem_of_getElem? (i := 1631) (by decide +kernel)⟩
theorem lw_p88 : lw_okq (⟨"RawPicturesModel", "blurAt", "(IIII)I"⟩, 54) := ⟨⟨by decide +kernel, by decide +kernel⟩, List.mem_of_getElem? (i := 1166) (by decide +kernel), List.mem_of_getElem? (i := 1634) (by decide +kernel), List.mem_of_getElem? (i := 1635) (by decide +kernel)⟩
theorem lw_p89 : lw_okq (⟨"RawPicturesModel", "sharpened", "(IIIIII)I"⟩, 54) := ⟨⟨by decide +kernel, by decide +kernel⟩, List.mem_of_getElem? (i := 1166) (by decide +kernel), List.mem_of_getElem? (i := 1638) (by decide +kernel), List.mem_of_getElem? (i := 1639) (by decide +kernel)⟩
theorem lw_p90 : lw_okq (⟨"RawPicturesModel", "isBehind", "(I)Z"⟩, 54) := ⟨⟨by decide +kernel, by decide +kernel⟩, List.mem_of_getElem? (i := 1166) (by decide +kernel), List.mem_of_getElem? (i := 1642) (by decide +kernel), List.mem_of_getElem? (i := 1643) (by decide +kernel)⟩
theorem lw_p91 : lw_okq (⟨"RawPicturesModel", "filler", "()I"⟩, 54) := ⟨⟨by decide +kernel, by decide +kernel⟩, List.mem_of_getElem? (i := 1166) (by decide +kernel), List.mem_of_getElem? (i := 1646) (by decide +kernel), List.mem_of_getElem? (i := 1647) (by decide +kernel)⟩
theorem lw_p92 : lw_okq (⟨"RawPicturesModel", "isKind", "(II)Z"⟩, 54) := ⟨⟨by decide +kernel, by decide +kernel⟩, List.mem_of_getElem? (i := 1166) (by decide +kernel), List.mem_of_getElem? (i := 1654) (by decide +kernel), List.mem_of_getElem? (i := 1655) (by decide +kernel)⟩
theorem lw_p93 : lw_okq (⟨"RawPicturesModel", "marksFound", "(I)V"⟩, 54) := ⟨⟨by decide +kernel, by decide +kernel⟩, List.mem_of_getElem? (i := 1166) (by decide +kernel), List.mem_of_getElem? (i := 1658) (by decide +kernel), List.mem_of_getElem? (i := 1659) (by decide +kernel)⟩
theorem lw_p94 : lw_okq (⟨"RawPicturesModel", "gathers", "(Z)I"⟩, 54) := ⟨⟨by decide +kernel, by decide +kernel⟩, List.mem_of_getElem? (i := 1166) (by decide +kernel), List.mem_of_getElem? (i := 1666) (by decide +kernel), List.mem_of_getElem? (i := 1667) (by decide +kernel)⟩
theorem lw_p95 : lw_okq (⟨"RawPicturesModel", "spreads", "(IIZ)I"⟩, 54) := ⟨⟨by decide +kernel, by decide +kernel⟩, List.mem_of_getElem? (i := 1166) (by decide +kernel), List.mem_of_getElem? (i := 1670) (by decide +kernel), List.mem_of_getElem? (i := 1671) (by decide +kernel)⟩
def lw_privs_6 : List (MethodName × Nat) := [(⟨"RawPicturesModel", "lateAt", "(IIIIIII)I"⟩, 54), (⟨"RawPicturesModel", "gained", "(II)I"⟩, 54), (⟨"RawPicturesModel", "paled", "(IIIII)I"⟩, 54), (⟨"RawPicturesModel", "curved", "(III)I"⟩, 54), (⟨"RawPicturesModel", "baseOf", "(IIII)I"⟩, 54), (⟨"RawPicturesModel", "toneAt", "(III)I"⟩, 54), (⟨"RawPicturesModel", "floorAt", "(III)I"⟩, 54), (⟨"RawPicturesModel", "calmed", "(IIIIII)I"⟩, 54), (⟨"RawPicturesModel", "blurAt", "(IIII)I"⟩, 54), (⟨"RawPicturesModel", "sharpened", "(IIIIII)I"⟩, 54), (⟨"RawPicturesModel", "isBehind", "(I)Z"⟩, 54), (⟨"RawPicturesModel", "filler", "()I"⟩, 54), (⟨"RawPicturesModel", "isKind", "(II)Z"⟩, 54), (⟨"RawPicturesModel", "marksFound", "(I)V"⟩, 54), (⟨"RawPicturesModel", "gathers", "(Z)I"⟩, 54), (⟨"RawPicturesModel", "spreads", "(IIZ)I"⟩, 54)]
theorem lw_r6 : ∀ q ∈ lw_privs_6, lw_okq q := List.forall_mem_cons.mpr ⟨lw_p80, List.forall_mem_cons.mpr ⟨lw_p81, List.forall_mem_cons.mpr ⟨lw_p82, List.forall_mem_cons.mpr ⟨lw_p83, List.forall_mem_cons.mpr ⟨lw_p84, List.forall_mem_cons.mpr ⟨lw_p85, List.forall_mem_cons.mpr ⟨lw_p86, List.forall_mem_cons.mpr ⟨lw_p87, List.forall_mem_cons.mpr ⟨lw_p88, List.forall_mem_cons.mpr ⟨lw_p89, List.forall_mem_cons.mpr ⟨lw_p90, List.forall_mem_cons.mpr ⟨lw_p91, List.forall_mem_cons.mpr ⟨lw_p92, List.forall_mem_cons.mpr ⟨lw_p93, List.forall_mem_cons.mpr ⟨lw_p94, List.forall_mem_cons.mpr ⟨lw_p95, fun _ h => absurd h List.not_mem_nil⟩⟩⟩⟩⟩⟩⟩⟩⟩⟩⟩⟩⟩⟩⟩⟩
theorem lw_p96 : lw_okq (⟨"RawPicturesModel", "largest", "(I)I"⟩, 54) := ⟨⟨by decide +kernel, by decide +kernel⟩, List.mem_of_getElem? (i := 1166) (by decide +kernel), List.mem_of_getElem? (i := 1674) (by decide +kernel), List.mem_of_getElem? (i := 1675) (by decide +kernel)⟩
theorem lw_p97 : lw_okq (⟨"RawPicturesModel", "isAlongEdges", "()Z"⟩, 54) := ⟨⟨by decide +kernel, by decide +kernel⟩, List.mem_of_getElem? (i := 1166) (by decide +kernel), List.mem_of_getElem? (i := 1690) (by decide +kernel), List.mem_of_getElem? (i := 1691) (by decide +kernel)⟩
theorem lw_p98 : lw_okq (⟨"RawPicturesModel", "isLeftOf", "(II)Z"⟩, 54) := ⟨⟨by decide +kernel, by decide +kernel⟩, List.mem_of_getElem? (i := 1166) (by decide +kernel), List.mem_of_getElem? (i := 1714) (by decide +kernel), List.mem_of_getElem? (i := 1715) (by decide +kernel)⟩
theorem lw_p99 : lw_okq (⟨"RawPicturesModel", "lists", "(II)V"⟩, 54) := ⟨⟨by decide +kernel, by decide +kernel⟩, List.mem_of_getElem? (i := 1166) (by decide +kernel), List.mem_of_getElem? (i := 1718) (by decide +kernel), List.mem_of_getElem? (i := 1719) (by decide +kernel)⟩
theorem lw_p100 : lw_okq (⟨"RawPicturesModel", "within", "(II)I"⟩, 54) := ⟨⟨by decide +kernel, by decide +kernel⟩, List.mem_of_getElem? (i := 1166) (by decide +kernel), List.mem_of_getElem? (i := 1722) (by decide +kernel), List.mem_of_getElem? (i := 1723) (by decide +kernel)⟩
theorem lw_p101 : lw_okq (⟨"RawPicturesModel", "unlikeOnes", "()I"⟩, 54) := ⟨⟨by decide +kernel, by decide +kernel⟩, List.mem_of_getElem? (i := 1166) (by decide +kernel), List.mem_of_getElem? (i := 1726) (by decide +kernel), List.mem_of_getElem? (i := 1727) (by decide +kernel)⟩
theorem lw_p102 : lw_okq (⟨"RawPicturesModel", "noiseOf", "(IIII)I"⟩, 54) := ⟨⟨by decide +kernel, by decide +kernel⟩, List.mem_of_getElem? (i := 1166) (by decide +kernel), List.mem_of_getElem? (i := 1734) (by decide +kernel), List.mem_of_getElem? (i := 1735) (by decide +kernel)⟩
theorem lw_p103 : lw_okq (⟨"RawPicturesModel", "ringOf", "(II)I"⟩, 54) := ⟨⟨by decide +kernel, by decide +kernel⟩, List.mem_of_getElem? (i := 1166) (by decide +kernel), List.mem_of_getElem? (i := 1753) (by decide +kernel), List.mem_of_getElem? (i := 1754) (by decide +kernel)⟩
theorem lw_p104 : lw_okq (⟨"RawPicturesModel", "errorOf", "(III)J"⟩, 54) := ⟨⟨by decide +kernel, by decide +kernel⟩, List.mem_of_getElem? (i := 1166) (by decide +kernel), List.mem_of_getElem? (i := 1768) (by decide +kernel), List.mem_of_getElem? (i := 1769) (by decide +kernel)⟩
theorem lw_p105 : lw_okq (⟨"RawPicturesModel", "falseOf", "(II)I"⟩, 54) := ⟨⟨by decide +kernel, by decide +kernel⟩, List.mem_of_getElem? (i := 1166) (by decide +kernel), List.mem_of_getElem? (i := 1776) (by decide +kernel), List.mem_of_getElem? (i := 1777) (by decide +kernel)⟩
theorem lw_p106 : lw_okq (⟨"RawPicturesModel", "unlikeOf", "(IIZI)I"⟩, 54) := ⟨⟨by decide +kernel, by decide +kernel⟩, List.mem_of_getElem? (i := 1166) (by decide +kernel), List.mem_of_getElem? (i := 1788) (by decide +kernel), List.mem_of_getElem? (i := 1789) (by decide +kernel)⟩
theorem lw_p107 : lw_okq (⟨"RawPicturesModel", "leavesBy", "(II)I"⟩, 54) := ⟨⟨by decide +kernel, by decide +kernel⟩, List.mem_of_getElem? (i := 1166) (by decide +kernel), List.mem_of_getElem? (i := 1796) (by decide +kernel), List.mem_of_getElem? (i := 1797) (by decide +kernel)⟩
theorem lw_p108 : lw_okq (⟨"RawPicturesModel", "badness", "(II)J"⟩, 54) := ⟨⟨by decide +kernel, by decide +kernel⟩, List.mem_of_getElem? (i := 1166) (by decide +kernel), List.mem_of_getElem? (i := 1808) (by decide +kernel), List.mem_of_getElem? (i := 1809) (by decide +kernel)⟩
def lw_privs_7 : List (MethodName × Nat) := [(⟨"RawPicturesModel", "largest", "(I)I"⟩, 54), (⟨"RawPicturesModel", "isAlongEdges", "()Z"⟩, 54), (⟨"RawPicturesModel", "isLeftOf", "(II)Z"⟩, 54), (⟨"RawPicturesModel", "lists", "(II)V"⟩, 54), (⟨"RawPicturesModel", "within", "(II)I"⟩, 54), (⟨"RawPicturesModel", "unlikeOnes", "()I"⟩, 54), (⟨"RawPicturesModel", "noiseOf", "(IIII)I"⟩, 54), (⟨"RawPicturesModel", "ringOf", "(II)I"⟩, 54), (⟨"RawPicturesModel", "errorOf", "(III)J"⟩, 54), (⟨"RawPicturesModel", "falseOf", "(II)I"⟩, 54), (⟨"RawPicturesModel", "unlikeOf", "(IIZI)I"⟩, 54), (⟨"RawPicturesModel", "leavesBy", "(II)I"⟩, 54), (⟨"RawPicturesModel", "badness", "(II)J"⟩, 54)]
theorem lw_r7 : ∀ q ∈ lw_privs_7, lw_okq q := List.forall_mem_cons.mpr ⟨lw_p96, List.forall_mem_cons.mpr ⟨lw_p97, List.forall_mem_cons.mpr ⟨lw_p98, List.forall_mem_cons.mpr ⟨lw_p99, List.forall_mem_cons.mpr ⟨lw_p100, List.forall_mem_cons.mpr ⟨lw_p101, List.forall_mem_cons.mpr ⟨lw_p102, List.forall_mem_cons.mpr ⟨lw_p103, List.forall_mem_cons.mpr ⟨lw_p104, List.forall_mem_cons.mpr ⟨lw_p105, List.forall_mem_cons.mpr ⟨lw_p106, List.forall_mem_cons.mpr ⟨lw_p107, List.forall_mem_cons.mpr ⟨lw_p108, fun _ h => absurd h List.not_mem_nil⟩⟩⟩⟩⟩⟩⟩⟩⟩⟩⟩⟩⟩
def lw_privs : List (MethodName × Nat) := lw_privs_1 ++ (lw_privs_2 ++ (lw_privs_3 ++ (lw_privs_4 ++ (lw_privs_5 ++ (lw_privs_6 ++ (lw_privs_7))))))
def lw_tbl : List Cond := k2_sels lw_privs ++ tables_1
theorem lw_privs_ok : ∀ q ∈ lw_privs, lw_okq q := by
  show ∀ q ∈ lw_privs_1 ++ (lw_privs_2 ++ (lw_privs_3 ++ (lw_privs_4 ++ (lw_privs_5 ++ (lw_privs_6 ++ (lw_privs_7)))))), lw_okq q
  exact List.forall_mem_append.mpr ⟨lw_r1, List.forall_mem_append.mpr ⟨lw_r2, List.forall_mem_append.mpr ⟨lw_r3, List.forall_mem_append.mpr ⟨lw_r4, List.forall_mem_append.mpr ⟨lw_r5, List.forall_mem_append.mpr ⟨lw_r6, lw_r7⟩⟩⟩⟩⟩⟩
-- ===== end of PART A; then your names; then what follows =====
end
section
/-! ===== BEGIN words of one list among another's, by their places ===== -/
theorem goodIn_r {big : List Cond} (ws : List Cond) (ps : List Nat) (hp : ws = ps.filterMap (fun i => big[i]?)) (h : ws.all goodWord = true) : GoodIn big ws := by
  intro w hw
  have h1 := List.all_eq_true.mp h w hw
  rw [hp] at hw
  obtain ⟨i, -, hi⟩ := List.mem_filterMap.mp hw
  have hm : w ∈ big := by first | exact List.mem_of_getElem? hi | exact List.getElem?_mem hi
  exact ⟨hm, good_of_word h1⟩
theorem goodIn_app {big a b : List Cond} (ha : GoodIn big a) (hb : GoodIn big b) : GoodIn big (a ++ b) := fun w h => (List.mem_append.mp h).elim (ha w) (hb w)
theorem goodIn_ca {big a b : List Cond} {c : Cond} (ha : GoodIn big (c :: a)) (hb : GoodIn big b) : GoodIn big (c :: (a ++ b)) := fun w h => (List.mem_cons.mp h).elim (fun e => ha w (List.mem_cons.mpr (Or.inl e))) (fun h => (List.mem_append.mp h).elim (fun h => ha w (List.mem_cons.mpr (Or.inr h))) (hb w))
theorem goodIn_sub {big ws : List Cond} (hm : ∀ w ∈ ws, w ∈ big) (h : ws.all goodWord = true) : GoodIn big ws := fun w hw => ⟨hm w hw, good_of_word (List.all_eq_true.mp h w hw)⟩
/-! ===== END ===== -/
def RX0 : String := "RawPictures$Clumps"
def TX0 : u_T := fun k => match k with
  | 0 => ("RawPictures$Clumps", "howMany", "I", false)
  | 1 => ("RawPictures$Clumps", "largest", "I", false)
  | 2 => ("RawPictures$Clumps", "firstOfLargest", "I", false)
  | 3 => ("RawPictures$Clumps", "mark", "[I", true)
  | 4 => ("RawPictures$Clumps", "rest", "[I", true)
  | 5 => ("RawPictures$Clumps", "queue", "[I", true)
  | 6 => ("RawPictures$Clumps", "queued", "I", false)
  | _ => ("RawPictures$Clumps", "mosaic", "LRawPictures$Mosaic;", true)
def tyX0 : Nat → FieldType := fun k => match k with
  | 0 => .int
  | 1 => .int
  | 2 => .int
  | 3 => .array .int
  | 4 => .array .int
  | 5 => .array .int
  | 6 => .int
  | _ => .object "RawPictures$Mosaic"
abbrev wsX00 : List Cond := u_ws RX0 TX0 8
theorem nmX0 : ∀ a, a < 8 → ∀ b, b < 8 → a ≠ b → (TX0 a).2.1 ≠ (TX0 b).2.1 := by decide +kernel
theorem tyX0_ok : ∀ k, k < 8 → parseFieldDescriptor (TX0 k).2.2.1 = some (tyX0 k) := by decide +kernel
abbrev cX0_init : ByteArray := prog_2_method_1_code
def yX0_init : MethodName := ⟨RX0, "<init>", "(LRawPictures$Mosaic;)V"⟩
abbrev cX0_put : ByteArray := prog_2_method_2_code
def yX0_put : MethodName := ⟨RX0, "put", "(IIZ)V"⟩
abbrev cX0_markBright : ByteArray := prog_2_method_3_code
def yX0_markBright : MethodName := ⟨RX0, "markBright", "(LRawPictures$Sheet;II)V"⟩
abbrev cX0_marked : ByteArray := prog_2_method_4_code
def yX0_marked : MethodName := ⟨RX0, "marked", "()I"⟩
abbrev cX0_markedAnd : ByteArray := prog_2_method_5_code
def yX0_markedAnd : MethodName := ⟨RX0, "markedAnd", "([I)I"⟩
abbrev cX0_firstMarked : ByteArray := prog_2_method_6_code
def yX0_firstMarked : MethodName := ⟨RX0, "firstMarked", "()I"⟩
abbrev cX0_lastMarked : ByteArray := prog_2_method_7_code
def yX0_lastMarked : MethodName := ⟨RX0, "lastMarked", "()I"⟩
abbrev cX0_gather : ByteArray := prog_2_method_8_code
def yX0_gather : MethodName := ⟨RX0, "gather", "(Z)V"⟩
abbrev cX0_take : ByteArray := prog_2_method_9_code
def yX0_take : MethodName := ⟨RX0, "take", "(IIZ)I"⟩
abbrev cX0_enqueue : ByteArray := prog_2_method_10_code
def yX0_enqueue : MethodName := ⟨RX0, "enqueue", "(II)V"⟩
def RX1 : String := "RawPictures$Darkroom"
def TX1 : u_T := fun k => match k with
  | 0 => ("RawPictures$Darkroom", "early", "LRawPictures$EarlyStages;", true)
  | 1 => ("RawPictures$Darkroom", "late", "LRawPictures$LateStages;", true)
  | 2 => ("RawPictures$Darkroom", "mosaic", "LRawPictures$Mosaic;", true)
  | 3 => ("RawPictures$Darkroom", "recipe", "LRawPictures$Recipe;", true)
  | 4 => ("RawPictures$Darkroom", "sheets", "[LRawPictures$Sheet;", true)
  | 5 => ("RawPictures$Darkroom", "oneTrial", "LRawPictures$Sheet;", true)
  | 6 => ("RawPictures$Darkroom", "otherTrial", "LRawPictures$Sheet;", true)
  | _ => ("RawPictures$Darkroom", "made", "I", false)
def tyX1 : Nat → FieldType := fun k => match k with
  | 0 => .object "RawPictures$EarlyStages"
  | 1 => .object "RawPictures$LateStages"
  | 2 => .object "RawPictures$Mosaic"
  | 3 => .object "RawPictures$Recipe"
  | 4 => .array (.object "RawPictures$Sheet")
  | 5 => .object "RawPictures$Sheet"
  | 6 => .object "RawPictures$Sheet"
  | _ => .int
abbrev wsX10 : List Cond := u_ws RX1 TX1 8
theorem nmX1 : ∀ a, a < 8 → ∀ b, b < 8 → a ≠ b → (TX1 a).2.1 ≠ (TX1 b).2.1 := by decide +kernel
theorem tyX1_ok : ∀ k, k < 8 → parseFieldDescriptor (TX1 k).2.2.1 = some (tyX1 k) := by decide +kernel
abbrev cX1_init : ByteArray := prog_3_method_1_code
def yX1_init : MethodName := ⟨RX1, "<init>", "(LRawPictures$Mosaic;LRawPictures$Recipe;)V"⟩
abbrev cX1_forget : ByteArray := prog_3_method_2_code
def yX1_forget : MethodName := ⟨RX1, "forget", "()V"⟩
abbrev cX1_sheetOf : ByteArray := prog_3_method_3_code
def yX1_sheetOf : MethodName := ⟨RX1, "sheetOf", "(I)LRawPictures$Sheet;"⟩
abbrev cX1_lastWith : ByteArray := prog_3_method_4_code
def yX1_lastWith : MethodName := ⟨RX1, "lastWith", "(II)LRawPictures$Sheet;"⟩
abbrev cX1_apply : ByteArray := prog_3_method_5_code
def yX1_apply : MethodName := ⟨RX1, "apply", "(IILRawPictures$Sheet;LRawPictures$Sheet;)V"⟩
def RX2 : String := "RawPictures$EarlyStages"
def TX2 : u_T := fun k => match k with
  | _ => ("RawPictures$EarlyStages", "mosaic", "LRawPictures$Mosaic;", true)
def tyX2 : Nat → FieldType := fun k => match k with
  | _ => .object "RawPictures$Mosaic"
abbrev wsX20 : List Cond := u_ws RX2 TX2 1
theorem nmX2 : ∀ a, a < 1 → ∀ b, b < 1 → a ≠ b → (TX2 a).2.1 ≠ (TX2 b).2.1 := by decide +kernel
theorem tyX2_ok : ∀ k, k < 1 → parseFieldDescriptor (TX2 k).2.2.1 = some (tyX2 k) := by decide +kernel
abbrev cX2_init : ByteArray := prog_4_method_1_code
def yX2_init : MethodName := ⟨RX2, "<init>", "(LRawPictures$Mosaic;)V"⟩
abbrev cX2_takeBlack : ByteArray := prog_4_method_2_code
def yX2_takeBlack : MethodName := ⟨RX2, "takeBlack", "(LRawPictures$Sheet;LRawPictures$Sheet;I)V"⟩
abbrev cX2_darkOf : ByteArray := prog_4_method_3_code
def yX2_darkOf : MethodName := ⟨RX2, "darkOf", "(LRawPictures$Sheet;II)I"⟩
abbrev cX2_takeDark : ByteArray := prog_4_method_4_code
def yX2_takeDark : MethodName := ⟨RX2, "takeDark", "(LRawPictures$Sheet;LRawPictures$Sheet;I)V"⟩
abbrev cX2_middleOf : ByteArray := prog_4_method_5_code
def yX2_middleOf : MethodName := ⟨RX2, "middleOf", "(LRawPictures$Sheet;II)I"⟩
abbrev cX2_isFound : ByteArray := prog_4_method_6_code
def yX2_isFound : MethodName := ⟨RX2, "isFound", "(LRawPictures$Sheet;III)Z"⟩
abbrev cX2_fillFound : ByteArray := prog_4_method_7_code
def yX2_fillFound : MethodName := ⟨RX2, "fillFound", "(LRawPictures$Sheet;LRawPictures$Sheet;I)V"⟩
abbrev cX2_liftShade : ByteArray := prog_4_method_8_code
def yX2_liftShade : MethodName := ⟨RX2, "liftShade", "(LRawPictures$Sheet;LRawPictures$Sheet;I)V"⟩
abbrev cX2_fillMosaic : ByteArray := prog_4_method_9_code
def yX2_fillMosaic : MethodName := ⟨RX2, "fillMosaic", "(LRawPictures$Sheet;LRawPictures$Sheet;I)V"⟩
abbrev cX2_wayOf : ByteArray := prog_4_method_10_code
def yX2_wayOf : MethodName := ⟨RX2, "wayOf", "(LRawPictures$Sheet;II)I"⟩
abbrev cX2_greenOf : ByteArray := prog_4_method_11_code
def yX2_greenOf : MethodName := ⟨RX2, "greenOf", "(LRawPictures$Sheet;III)I"⟩
abbrev cX2_fillRedAndBlue : ByteArray := prog_4_method_12_code
def yX2_fillRedAndBlue : MethodName := ⟨RX2, "fillRedAndBlue", "(LRawPictures$Sheet;LRawPictures$Sheet;II)V"⟩
abbrev cX2_aboveGreen : ByteArray := prog_4_method_13_code
def yX2_aboveGreen : MethodName := ⟨RX2, "aboveGreen", "(LRawPictures$Sheet;LRawPictures$Sheet;II)I"⟩
def RX3 : String := "RawPictures$LateStages"
def TX3 : u_T := fun k => match k with
  | 0 => ("RawPictures$LateStages", "gainOfRed", "I", false)
  | 1 => ("RawPictures$LateStages", "gainOfBlue", "I", false)
  | 2 => ("RawPictures$LateStages", "greys", "I", false)
  | 3 => ("RawPictures$LateStages", "plane", "[I", true)
  | 4 => ("RawPictures$LateStages", "floors", "[[I", true)
  | 5 => ("RawPictures$LateStages", "nine", "[I", true)
  | _ => ("RawPictures$LateStages", "mosaic", "LRawPictures$Mosaic;", true)
def tyX3 : Nat → FieldType := fun k => match k with
  | 0 => .int
  | 1 => .int
  | 2 => .int
  | 3 => .array .int
  | 4 => .array (.array .int)
  | 5 => .array .int
  | _ => .object "RawPictures$Mosaic"
abbrev wsX30 : List Cond := u_ws RX3 TX3 7
theorem nmX3 : ∀ a, a < 7 → ∀ b, b < 7 → a ≠ b → (TX3 a).2.1 ≠ (TX3 b).2.1 := by decide +kernel
theorem tyX3_ok : ∀ k, k < 7 → parseFieldDescriptor (TX3 k).2.2.1 = some (tyX3 k) := by decide +kernel
abbrev cX3_init : ByteArray := prog_5_method_1_code
def yX3_init : MethodName := ⟨RX3, "<init>", "(LRawPictures$Mosaic;)V"⟩
abbrev cX3_voteDown : ByteArray := prog_5_method_2_code
def yX3_voteDown : MethodName := ⟨RX3, "voteDown", "(LRawPictures$Sheet;LRawPictures$Sheet;I)V"⟩
abbrev cX3_voteColour : ByteArray := prog_5_method_3_code
def yX3_voteColour : MethodName := ⟨RX3, "voteColour", "([II)V"⟩
abbrev cX3_medianAt : ByteArray := prog_5_method_4_code
def yX3_medianAt : MethodName := ⟨RX3, "medianAt", "([IIII)I"⟩
abbrev cX3_findWhite : ByteArray := prog_5_method_5_code
def yX3_findWhite : MethodName := ⟨RX3, "findWhite", "(LRawPictures$Sheet;I)V"⟩
abbrev cX3_isGrey : ByteArray := prog_5_method_6_code
def yX3_isGrey : MethodName := ⟨RX3, "isGrey", "([III)Z"⟩
abbrev cX3_gainOf : ByteArray := prog_5_method_7_code
def yX3_gainOf : MethodName := ⟨RX3, "gainOf", "(II)I"⟩
abbrev cX3_multiply : ByteArray := prog_5_method_8_code
def yX3_multiply : MethodName := ⟨RX3, "multiply", "(LRawPictures$Sheet;LRawPictures$Sheet;IIII)V"⟩
abbrev cX3_multiplyColour : ByteArray := prog_5_method_9_code
def yX3_multiplyColour : MethodName := ⟨RX3, "multiplyColour", "(LRawPictures$Sheet;LRawPictures$Sheet;III)V"⟩
abbrev cX3_stretch : ByteArray := prog_5_method_10_code
def yX3_stretch : MethodName := ⟨RX3, "stretch", "(LRawPictures$Sheet;LRawPictures$Sheet;I)V"⟩
abbrev cX3_makePale : ByteArray := prog_5_method_11_code
def yX3_makePale : MethodName := ⟨RX3, "makePale", "(LRawPictures$Sheet;LRawPictures$Sheet;I)V"⟩
abbrev cX3_paled : ByteArray := prog_5_method_12_code
def yX3_paled : MethodName := ⟨RX3, "paled", "(III)I"⟩
abbrev cX3_bend : ByteArray := prog_5_method_13_code
def yX3_bend : MethodName := ⟨RX3, "bend", "(LRawPictures$Sheet;LRawPictures$Sheet;LRawPictures$Recipe;I)V"⟩
abbrev cX3_bent : ByteArray := prog_5_method_14_code
def yX3_bent : MethodName := ⟨RX3, "bent", "(ILRawPictures$Recipe;I)I"⟩
abbrev cX3_evenBlocks : ByteArray := prog_5_method_15_code
def yX3_evenBlocks : MethodName := ⟨RX3, "evenBlocks", "(LRawPictures$Sheet;LRawPictures$Sheet;II)V"⟩
abbrev cX3_findBases : ByteArray := prog_5_method_16_code
def yX3_findBases : MethodName := ⟨RX3, "findBases", "(LRawPictures$Sheet;I)V"⟩
abbrev cX3_layBase : ByteArray := prog_5_method_17_code
def yX3_layBase : MethodName := ⟨RX3, "layBase", "(LRawPictures$Sheet;III)V"⟩
abbrev cX3_setTones : ByteArray := prog_5_method_18_code
def yX3_setTones : MethodName := ⟨RX3, "setTones", "(LRawPictures$Sheet;LRawPictures$Sheet;III)V"⟩
abbrev cX3_buildFloors : ByteArray := prog_5_method_19_code
def yX3_buildFloors : MethodName := ⟨RX3, "buildFloors", "(LRawPictures$Sheet;)V"⟩
abbrev cX3_buildFloor : ByteArray := prog_5_method_20_code
def yX3_buildFloor : MethodName := ⟨RX3, "buildFloor", "([I[III)V"⟩
abbrev cX3_floorOf : ByteArray := prog_5_method_21_code
def yX3_floorOf : MethodName := ⟨RX3, "floorOf", "(III)I"⟩
abbrev cX3_toneOf : ByteArray := prog_5_method_22_code
def yX3_toneOf : MethodName := ⟨RX3, "toneOf", "(IIIII)I"⟩
abbrev cX3_addToAll : ByteArray := prog_5_method_23_code
def yX3_addToAll : MethodName := ⟨RX3, "addToAll", "(LRawPictures$Sheet;LRawPictures$Sheet;II)V"⟩
abbrev cX3_takeNoise : ByteArray := prog_5_method_24_code
def yX3_takeNoise : MethodName := ⟨RX3, "takeNoise", "(LRawPictures$Sheet;LRawPictures$Sheet;II)V"⟩
abbrev cX3_sharpen : ByteArray := prog_5_method_25_code
def yX3_sharpen : MethodName := ⟨RX3, "sharpen", "(LRawPictures$Sheet;LRawPictures$Sheet;II)V"⟩
def RX4 : String := "RawPictures$Meter"
def TX4 : u_T := fun k => match k with
  | 0 => ("RawPictures$Meter", "size", "I", false)
  | 1 => ("RawPictures$Meter", "noisyOnes", "I", false)
  | 2 => ("RawPictures$Meter", "allDetails", "I", false)
  | 3 => ("RawPictures$Meter", "greatestDetail", "I", false)
  | 4 => ("RawPictures$Meter", "allErrors", "J", false)
  | 5 => ("RawPictures$Meter", "greatestError", "J", false)
  | 6 => ("RawPictures$Meter", "squaredErrors", "J", false)
  | 7 => ("RawPictures$Meter", "unlikeLevels", "I", false)
  | 8 => ("RawPictures$Meter", "greatestDifference", "I", false)
  | 9 => ("RawPictures$Meter", "gathered", "[I", true)
  | 10 => ("RawPictures$Meter", "seen", "[J", true)
  | _ => ("RawPictures$Meter", "mosaic", "LRawPictures$Mosaic;", true)
def tyX4 : Nat → FieldType := fun k => match k with
  | 0 => .int
  | 1 => .int
  | 2 => .int
  | 3 => .int
  | 4 => .long
  | 5 => .long
  | 6 => .long
  | 7 => .int
  | 8 => .int
  | 9 => .array .int
  | 10 => .array .long
  | _ => .object "RawPictures$Mosaic"
abbrev wsX40 : List Cond := u_ws RX4 TX4 12
theorem nmX4 : ∀ a, a < 12 → ∀ b, b < 12 → a ≠ b → (TX4 a).2.1 ≠ (TX4 b).2.1 := by decide +kernel
theorem tyX4_ok : ∀ k, k < 12 → parseFieldDescriptor (TX4 k).2.2.1 = some (tyX4 k) := by decide +kernel
abbrev cX4_init : ByteArray := prog_6_method_1_code
def yX4_init : MethodName := ⟨RX4, "<init>", "(LRawPictures$Mosaic;)V"⟩
abbrev cX4_gather : ByteArray := prog_6_method_2_code
def yX4_gather : MethodName := ⟨RX4, "gather", "(LRawPictures$Sheet;I)V"⟩
abbrev cX4_gatherRing : ByteArray := prog_6_method_3_code
def yX4_gatherRing : MethodName := ⟨RX4, "gatherRing", "(LRawPictures$Sheet;II)V"⟩
abbrev cX4_ringOf : ByteArray := prog_6_method_4_code
def yX4_ringOf : MethodName := ⟨RX4, "ringOf", "(II)I"⟩
abbrev cX4_least : ByteArray := prog_6_method_5_code
def yX4_least : MethodName := ⟨RX4, "least", "()I"⟩
abbrev cX4_greatest : ByteArray := prog_6_method_6_code
def yX4_greatest : MethodName := ⟨RX4, "greatest", "()I"⟩
abbrev cX4_together : ByteArray := prog_6_method_7_code
def yX4_together : MethodName := ⟨RX4, "together", "()I"⟩
abbrev cX4_between : ByteArray := prog_6_method_8_code
def yX4_between : MethodName := ⟨RX4, "between", "(II)I"⟩
abbrev cX4_unlikeOnes : ByteArray := prog_6_method_9_code
def yX4_unlikeOnes : MethodName := ⟨RX4, "unlikeOnes", "()I"⟩
abbrev cX4_percentile : ByteArray := prog_6_method_10_code
def yX4_percentile : MethodName := ⟨RX4, "percentile", "(I)I"⟩
abbrev cX4_bitsOfAll : ByteArray := prog_6_method_11_code
def yX4_bitsOfAll : MethodName := ⟨RX4, "bitsOfAll", "()I"⟩
abbrev cX4_digitsOf : ByteArray := prog_6_method_12_code
def yX4_digitsOf : MethodName := ⟨RX4, "digitsOf", "(I)I"⟩
abbrev cX4_findNoise : ByteArray := prog_6_method_13_code
def yX4_findNoise : MethodName := ⟨RX4, "findNoise", "(LRawPictures$Sheet;II)V"⟩
abbrev cX4_edgesOf : ByteArray := prog_6_method_14_code
def yX4_edgesOf : MethodName := ⟨RX4, "edgesOf", "(LRawPictures$Sheet;I)I"⟩
abbrev cX4_lightAt : ByteArray := prog_6_method_15_code
def yX4_lightAt : MethodName := ⟨RX4, "lightAt", "(LRawPictures$Sheet;II)I"⟩
abbrev cX4_findErrors : ByteArray := prog_6_method_16_code
def yX4_findErrors : MethodName := ⟨RX4, "findErrors", "(LRawPictures$Sheet;LRawPictures$Truth;I)V"⟩
abbrev cX4_falseOf : ByteArray := prog_6_method_17_code
def yX4_falseOf : MethodName := ⟨RX4, "falseOf", "(LRawPictures$Sheet;I)I"⟩
abbrev cX4_compare : ByteArray := prog_6_method_18_code
def yX4_compare : MethodName := ⟨RX4, "compare", "(LRawPictures$Sheet;LRawPictures$Sheet;)V"⟩
def RX5 : String := "RawPictures$Mosaic"
def TX5 : u_T := fun k => match k with
  | 0 => ("RawPictures$Mosaic", "w", "I", false)
  | 1 => ("RawPictures$Mosaic", "h", "I", false)
  | 2 => ("RawPictures$Mosaic", "phase", "I", false)
  | 3 => ("RawPictures$Mosaic", "value", "[I", true)
  | _ => ("RawPictures$Mosaic", "dead", "[I", true)
def tyX5 : Nat → FieldType := fun k => match k with
  | 0 => .int
  | 1 => .int
  | 2 => .int
  | 3 => .array .int
  | _ => .array .int
abbrev wsX50 : List Cond := u_ws RX5 TX5 5
theorem nmX5 : ∀ a, a < 5 → ∀ b, b < 5 → a ≠ b → (TX5 a).2.1 ≠ (TX5 b).2.1 := by decide +kernel
theorem tyX5_ok : ∀ k, k < 5 → parseFieldDescriptor (TX5 k).2.2.1 = some (tyX5 k) := by decide +kernel
abbrev cX5_init : ByteArray := prog_7_method_1_code
def yX5_init : MethodName := ⟨RX5, "<init>", "()V"⟩
abbrev cX5_begin : ByteArray := prog_7_method_2_code
def yX5_begin : MethodName := ⟨RX5, "begin", "(III)V"⟩
abbrev cX5_copyFrom : ByteArray := prog_7_method_3_code
def yX5_copyFrom : MethodName := ⟨RX5, "copyFrom", "(LRawPictures$Mosaic;)V"⟩
abbrev cX5_wake : ByteArray := prog_7_method_4_code
def yX5_wake : MethodName := ⟨RX5, "wake", "()V"⟩
abbrev cX5_has : ByteArray := prog_7_method_5_code
def yX5_has : MethodName := ⟨RX5, "has", "(II)Z"⟩
abbrev cX5_colourOf : ByteArray := prog_7_method_6_code
def yX5_colourOf : MethodName := ⟨RX5, "colourOf", "(II)I"⟩
abbrev cX5_squaresOf : ByteArray := prog_7_method_7_code
def yX5_squaresOf : MethodName := ⟨RX5, "squaresOf", "(I)I"⟩
abbrev cX5_sumOf : ByteArray := prog_7_method_8_code
def yX5_sumOf : MethodName := ⟨RX5, "sumOf", "([I)I"⟩
abbrev cX5_laid : ByteArray := prog_7_method_9_code
def yX5_laid : MethodName := ⟨RX5, "laid", "(IIIII)I"⟩
def RX6 : String := "RawPictures$Reader"
def TX6 : u_T := fun k => match k with
  | 0 => ("RawPictures$Reader", "draft", "LRawPictures$Recipe;", true)
  | 1 => ("RawPictures$Reader", "tape", "LRawPictures$Tape;", true)
  | 2 => ("RawPictures$Reader", "length", "I", false)
  | 3 => ("RawPictures$Reader", "at", "I", false)
  | _ => ("RawPictures$Reader", "fault", "I", false)
def tyX6 : Nat → FieldType := fun k => match k with
  | 0 => .object "RawPictures$Recipe"
  | 1 => .object "RawPictures$Tape"
  | 2 => .int
  | 3 => .int
  | _ => .int
abbrev wsX60 : List Cond := u_ws RX6 TX6 5
theorem nmX6 : ∀ a, a < 5 → ∀ b, b < 5 → a ≠ b → (TX6 a).2.1 ≠ (TX6 b).2.1 := by decide +kernel
theorem tyX6_ok : ∀ k, k < 5 → parseFieldDescriptor (TX6 k).2.2.1 = some (tyX6 k) := by decide +kernel
abbrev cX6_init : ByteArray := prog_8_method_1_code
def yX6_init : MethodName := ⟨RX6, "<init>", "(LRawPictures$Tape;)V"⟩
abbrev cX6_read : ByteArray := prog_8_method_2_code
def yX6_read : MethodName := ⟨RX6, "read", "(I)I"⟩
abbrev cX6_readStage : ByteArray := prog_8_method_3_code
def yX6_readStage : MethodName := ⟨RX6, "readStage", "()V"⟩
abbrev cX6_readLetter : ByteArray := prog_8_method_4_code
def yX6_readLetter : MethodName := ⟨RX6, "readLetter", "()I"⟩
abbrev cX6_readNumbers : ByteArray := prog_8_method_5_code
def yX6_readNumbers : MethodName := ⟨RX6, "readNumbers", "(I)V"⟩
abbrev cX6_readPoints : ByteArray := prog_8_method_6_code
def yX6_readPoints : MethodName := ⟨RX6, "readPoints", "()V"⟩
abbrev cX6_readNumber : ByteArray := prog_8_method_7_code
def yX6_readNumber : MethodName := ⟨RX6, "readNumber", "(II)I"⟩
abbrev cX6_expect : ByteArray := prog_8_method_8_code
def yX6_expect : MethodName := ⟨RX6, "expect", "(C)V"⟩
abbrev cX6_isDigit : ByteArray := prog_8_method_9_code
def yX6_isDigit : MethodName := ⟨RX6, "isDigit", "()Z"⟩
abbrev cX6_here : ByteArray := prog_8_method_10_code
def yX6_here : MethodName := ⟨RX6, "here", "()I"⟩
abbrev cX6_tell : ByteArray := prog_8_method_11_code
def yX6_tell : MethodName := ⟨RX6, "tell", "(II)V"⟩
def RX7 : String := "RawPictures$Recipe"
def TX7 : u_T := fun k => match k with
  | 0 => ("RawPictures$Recipe", "size", "I", false)
  | 1 => ("RawPictures$Recipe", "fAt", "I", false)
  | 2 => ("RawPictures$Recipe", "letter", "[I", true)
  | 3 => ("RawPictures$Recipe", "start", "[I", true)
  | _ => ("RawPictures$Recipe", "number", "[I", true)
def tyX7 : Nat → FieldType := fun k => match k with
  | 0 => .int
  | 1 => .int
  | 2 => .array .int
  | 3 => .array .int
  | _ => .array .int
abbrev wsX70 : List Cond := u_ws RX7 TX7 5
theorem nmX7 : ∀ a, a < 5 → ∀ b, b < 5 → a ≠ b → (TX7 a).2.1 ≠ (TX7 b).2.1 := by decide +kernel
theorem tyX7_ok : ∀ k, k < 5 → parseFieldDescriptor (TX7 k).2.2.1 = some (tyX7 k) := by decide +kernel
abbrev cX7_init : ByteArray := prog_9_method_1_code
def yX7_init : MethodName := ⟨RX7, "<init>", "()V"⟩
abbrev cX7_clear : ByteArray := prog_9_method_2_code
def yX7_clear : MethodName := ⟨RX7, "clear", "()V"⟩
abbrev cX7_copyFrom : ByteArray := prog_9_method_3_code
def yX7_copyFrom : MethodName := ⟨RX7, "copyFrom", "(LRawPictures$Recipe;)V"⟩
abbrev cX7_addStage : ByteArray := prog_9_method_4_code
def yX7_addStage : MethodName := ⟨RX7, "addStage", "(I)V"⟩
abbrev cX7_addNumber : ByteArray := prog_9_method_5_code
def yX7_addNumber : MethodName := ⟨RX7, "addNumber", "(I)V"⟩
abbrev cX7_has : ByteArray := prog_9_method_6_code
def yX7_has : MethodName := ⟨RX7, "has", "(I)Z"⟩
abbrev cX7_leaves : ByteArray := prog_9_method_7_code
def yX7_leaves : MethodName := ⟨RX7, "leaves", "(I)Z"⟩
abbrev cX7_isBehindF : ByteArray := prog_9_method_8_code
def yX7_isBehindF : MethodName := ⟨RX7, "isBehindF", "(I)Z"⟩
abbrev cX7_fillsAlongEdges : ByteArray := prog_9_method_9_code
def yX7_fillsAlongEdges : MethodName := ⟨RX7, "fillsAlongEdges", "()Z"⟩
abbrev cX7_letterOf : ByteArray := prog_9_method_10_code
def yX7_letterOf : MethodName := ⟨RX7, "letterOf", "(I)I"⟩
abbrev cX7_numbersOf : ByteArray := prog_9_method_11_code
def yX7_numbersOf : MethodName := ⟨RX7, "numbersOf", "(I)I"⟩
abbrev cX7_numberOf : ByteArray := prog_9_method_12_code
def yX7_numberOf : MethodName := ⟨RX7, "numberOf", "(II)I"⟩
def RX8 : String := "RawPictures$Sheet"
def TX8 : u_T := fun k => match k with
  | 0 => ("RawPictures$Sheet", "level", "[I", true)
  | _ => ("RawPictures$Sheet", "isFull", "Z", false)
def tyX8 : Nat → FieldType := fun k => match k with
  | 0 => .array .int
  | _ => .boolean
abbrev wsX80 : List Cond := u_ws RX8 TX8 2
theorem nmX8 : ∀ a, a < 2 → ∀ b, b < 2 → a ≠ b → (TX8 a).2.1 ≠ (TX8 b).2.1 := by decide +kernel
theorem tyX8_ok : ∀ k, k < 2 → parseFieldDescriptor (TX8 k).2.2.1 = some (tyX8 k) := by decide +kernel
abbrev cX8_init : ByteArray := prog_10_method_1_code
def yX8_init : MethodName := ⟨RX8, "<init>", "()V"⟩
abbrev cX8_layRaw : ByteArray := prog_10_method_2_code
def yX8_layRaw : MethodName := ⟨RX8, "layRaw", "(LRawPictures$Mosaic;)V"⟩
abbrev cX8_tells : ByteArray := prog_10_method_3_code
def yX8_tells : MethodName := ⟨RX8, "tells", "(LRawPictures$Mosaic;III)Z"⟩
abbrev cX8_levelAt : ByteArray := prog_10_method_4_code
def yX8_levelAt : MethodName := ⟨RX8, "levelAt", "(II)I"⟩
def RX9 : String := "RawPictures$Tape"
def TX9 : u_T := fun k => match k with
  | 0 => ("RawPictures$Tape", "bytes", "[I", true)
  | _ => ("RawPictures$Tape", "size", "I", false)
def tyX9 : Nat → FieldType := fun k => match k with
  | 0 => .array .int
  | _ => .int
abbrev wsX90 : List Cond := u_ws RX9 TX9 2
theorem nmX9 : ∀ a, a < 2 → ∀ b, b < 2 → a ≠ b → (TX9 a).2.1 ≠ (TX9 b).2.1 := by decide +kernel
theorem tyX9_ok : ∀ k, k < 2 → parseFieldDescriptor (TX9 k).2.2.1 = some (tyX9 k) := by decide +kernel
abbrev cX9_init : ByteArray := prog_11_method_1_code
def yX9_init : MethodName := ⟨RX9, "<init>", "()V"⟩
abbrev cX9_append : ByteArray := prog_11_method_2_code
def yX9_append : MethodName := ⟨RX9, "append", "(I)V"⟩
abbrev cX9_byteAt : ByteArray := prog_11_method_3_code
def yX9_byteAt : MethodName := ⟨RX9, "byteAt", "(I)I"⟩
abbrev cX9_empty : ByteArray := prog_11_method_4_code
def yX9_empty : MethodName := ⟨RX9, "empty", "()V"⟩
def RX10 : String := "RawPictures$Truth"
def TX10 : u_T := fun k => match k with
  | 0 => ("RawPictures$Truth", "value", "[I", true)
  | _ => ("RawPictures$Truth", "isThere", "Z", false)
def tyX10 : Nat → FieldType := fun k => match k with
  | 0 => .array .int
  | _ => .boolean
abbrev wsX100 : List Cond := u_ws RX10 TX10 2
theorem nmX10 : ∀ a, a < 2 → ∀ b, b < 2 → a ≠ b → (TX10 a).2.1 ≠ (TX10 b).2.1 := by decide +kernel
theorem tyX10_ok : ∀ k, k < 2 → parseFieldDescriptor (TX10 k).2.2.1 = some (tyX10 k) := by decide +kernel
abbrev cX10_init : ByteArray := prog_12_method_1_code
def yX10_init : MethodName := ⟨RX10, "<init>", "()V"⟩
abbrev cX10_lay : ByteArray := prog_12_method_2_code
def yX10_lay : MethodName := ⟨RX10, "lay", "(ILRawPictures$Tape;LRawPictures$Mosaic;)V"⟩
abbrev cX10_isFirst : ByteArray := prog_12_method_3_code
def yX10_isFirst : MethodName := ⟨RX10, "isFirst", "(IIILRawPictures$Mosaic;)Z"⟩
def RX11 : String := "RawPictures"
def TX11 : u_T := fun k => match k with
  | 0 => ("RawPictures", "tape", "LRawPictures$Tape;", true)
  | 1 => ("RawPictures", "mosaic", "LRawPictures$Mosaic;", true)
  | 2 => ("RawPictures", "known", "LRawPictures$Truth;", true)
  | 3 => ("RawPictures", "recipe", "LRawPictures$Recipe;", true)
  | 4 => ("RawPictures", "reader", "LRawPictures$Reader;", true)
  | 5 => ("RawPictures", "room", "LRawPictures$Darkroom;", true)
  | 6 => ("RawPictures", "meter", "LRawPictures$Meter;", true)
  | 7 => ("RawPictures", "clumps", "LRawPictures$Clumps;", true)
  | 8 => ("RawPictures", "keptMosaic", "LRawPictures$Mosaic;", true)
  | 9 => ("RawPictures", "keptRecipe", "LRawPictures$Recipe;", true)
  | 10 => ("RawPictures", "keptChance", "I", false)
  | 11 => ("RawPictures", "isKept", "Z", false)
  | _ => ("RawPictures", "chance", "I", false)
def tyX11 : Nat → FieldType := fun k => match k with
  | 0 => .object "RawPictures$Tape"
  | 1 => .object "RawPictures$Mosaic"
  | 2 => .object "RawPictures$Truth"
  | 3 => .object "RawPictures$Recipe"
  | 4 => .object "RawPictures$Reader"
  | 5 => .object "RawPictures$Darkroom"
  | 6 => .object "RawPictures$Meter"
  | 7 => .object "RawPictures$Clumps"
  | 8 => .object "RawPictures$Mosaic"
  | 9 => .object "RawPictures$Recipe"
  | 10 => .int
  | 11 => .boolean
  | _ => .int
abbrev wsX110 : List Cond := u_ws RX11 TX11 13
theorem nmX11 : ∀ a, a < 13 → ∀ b, b < 13 → a ≠ b → (TX11 a).2.1 ≠ (TX11 b).2.1 := by decide +kernel
theorem tyX11_ok : ∀ k, k < 13 → parseFieldDescriptor (TX11 k).2.2.1 = some (tyX11 k) := by decide +kernel
abbrev cX11_init : ByteArray := prog_1_method_1_code
def yX11_init : MethodName := ⟨RX11, "<init>", "()V"⟩
abbrev cX11_feed : ByteArray := prog_1_method_2_code
def yX11_feed : MethodName := ⟨RX11, "feed", "(IIIII)I"⟩
abbrev cX11_stages : ByteArray := prog_1_method_3_code
def yX11_stages : MethodName := ⟨RX11, "stages", "(I)I"⟩
abbrev cX11_raw : ByteArray := prog_1_method_4_code
def yX11_raw : MethodName := ⟨RX11, "raw", "(III)Z"⟩
abbrev cX11_row : ByteArray := prog_1_method_5_code
def yX11_row : MethodName := ⟨RX11, "row", "(I)Z"⟩
abbrev cX11_pixel : ByteArray := prog_1_method_6_code
def yX11_pixel : MethodName := ⟨RX11, "pixel", "(III)Z"⟩
abbrev cX11_dead : ByteArray := prog_1_method_7_code
def yX11_dead : MethodName := ⟨RX11, "dead", "(IIZ)I"⟩
abbrev cX11_scene : ByteArray := prog_1_method_8_code
def yX11_scene : MethodName := ⟨RX11, "scene", "(III)Z"⟩
abbrev cX11_truth : ByteArray := prog_1_method_9_code
def yX11_truth : MethodName := ⟨RX11, "truth", "(I)Z"⟩
abbrev cX11_rawIs : ByteArray := prog_1_method_10_code
def yX11_rawIs : MethodName := ⟨RX11, "rawIs", "(I)I"⟩
abbrev cX11_colour : ByteArray := prog_1_method_11_code
def yX11_colour : MethodName := ⟨RX11, "colour", "(II)I"⟩
abbrev cX11_stage : ByteArray := prog_1_method_12_code
def yX11_stage : MethodName := ⟨RX11, "stage", "(II)I"⟩
abbrev cX11_left : ByteArray := prog_1_method_13_code
def yX11_left : MethodName := ⟨RX11, "left", "(IIII)I"⟩
abbrev cX11_found : ByteArray := prog_1_method_14_code
def yX11_found : MethodName := ⟨RX11, "found", "(II)I"⟩
abbrev cX11_groups : ByteArray := prog_1_method_15_code
def yX11_groups : MethodName := ⟨RX11, "groups", "(II)I"⟩
abbrev cX11_dark : ByteArray := prog_1_method_16_code
def yX11_dark : MethodName := ⟨RX11, "dark", "(II)I"⟩
abbrev cX11_middle : ByteArray := prog_1_method_17_code
def yX11_middle : MethodName := ⟨RX11, "middle", "(III)I"⟩
abbrev cX11_way : ByteArray := prog_1_method_18_code
def yX11_way : MethodName := ⟨RX11, "way", "(II)I"⟩
abbrev cX11_ways : ByteArray := prog_1_method_19_code
def yX11_ways : MethodName := ⟨RX11, "ways", "(I)I"⟩
abbrev cX11_white : ByteArray := prog_1_method_20_code
def yX11_white : MethodName := ⟨RX11, "white", "(II)I"⟩
abbrev cX11_base : ByteArray := prog_1_method_21_code
def yX11_base : MethodName := ⟨RX11, "base", "(III)I"⟩
abbrev cX11_tone : ByteArray := prog_1_method_22_code
def yX11_tone : MethodName := ⟨RX11, "tone", "(IIII)I"⟩
abbrev cX11_levels : ByteArray := prog_1_method_23_code
def yX11_levels : MethodName := ⟨RX11, "levels", "(III)I"⟩
abbrev cX11_noise : ByteArray := prog_1_method_24_code
def yX11_noise : MethodName := ⟨RX11, "noise", "(IIII)I"⟩
abbrev cX11_percent : ByteArray := prog_1_method_25_code
def yX11_percent : MethodName := ⟨RX11, "percent", "(III)I"⟩
abbrev cX11_bits : ByteArray := prog_1_method_26_code
def yX11_bits : MethodName := ⟨RX11, "bits", "(II)I"⟩
abbrev cX11_ring : ByteArray := prog_1_method_27_code
def yX11_ring : MethodName := ⟨RX11, "ring", "(IIII)I"⟩
abbrev cX11_edges : ByteArray := prog_1_method_28_code
def yX11_edges : MethodName := ⟨RX11, "edges", "(II)I"⟩
abbrev cX11_error : ByteArray := prog_1_method_29_code
def yX11_error : MethodName := ⟨RX11, "error", "(III)J"⟩
abbrev cX11_falseOnes : ByteArray := prog_1_method_30_code
def yX11_falseOnes : MethodName := ⟨RX11, "falseOnes", "(II)I"⟩
abbrev cX11_places : ByteArray := prog_1_method_31_code
def yX11_places : MethodName := ⟨RX11, "places", "(IIII)I"⟩
abbrev cX11_unlike : ByteArray := prog_1_method_32_code
def yX11_unlike : MethodName := ⟨RX11, "unlike", "(III)I"⟩
abbrev cX11_without : ByteArray := prog_1_method_33_code
def yX11_without : MethodName := ⟨RX11, "without", "(II)I"⟩
abbrev cX11_best : ByteArray := prog_1_method_34_code
def yX11_best : MethodName := ⟨RX11, "best", "(II)I"⟩
abbrev cX11_seed : ByteArray := prog_1_method_35_code
def yX11_seed : MethodName := ⟨RX11, "seed", "(I)Z"⟩
abbrev cX11_keep : ByteArray := prog_1_method_36_code
def yX11_keep : MethodName := ⟨RX11, "keep", "()I"⟩
abbrev cX11_undo : ByteArray := prog_1_method_37_code
def yX11_undo : MethodName := ⟨RX11, "undo", "()Z"⟩
abbrev cX11_check : ByteArray := prog_1_method_38_code
def yX11_check : MethodName := ⟨RX11, "check", "(I)I"⟩
abbrev cX11_count : ByteArray := prog_1_method_39_code
def yX11_count : MethodName := ⟨RX11, "count", "(I)I"⟩
abbrev cX11_rawChanged : ByteArray := prog_1_method_40_code
def yX11_rawChanged : MethodName := ⟨RX11, "rawChanged", "()V"⟩
abbrev cX11_drawn : ByteArray := prog_1_method_41_code
def yX11_drawn : MethodName := ⟨RX11, "drawn", "(II)I"⟩
abbrev cX11_isLeftOf : ByteArray := prog_1_method_42_code
def yX11_isLeftOf : MethodName := ⟨RX11, "isLeftOf", "(II)Z"⟩
abbrev cX11_markFound : ByteArray := prog_1_method_43_code
def yX11_markFound : MethodName := ⟨RX11, "markFound", "(I)V"⟩
abbrev cX11_badness : ByteArray := prog_1_method_44_code
def yX11_badness : MethodName := ⟨RX11, "badness", "(LRawPictures$Sheet;I)J"⟩
abbrev cX11_isWithin : ByteArray := prog_1_method_45_code
def yX11_isWithin : MethodName := ⟨RX11, "isWithin", "(II)Z"⟩
abbrev cX11_isSide : ByteArray := prog_1_method_46_code
def yX11_isSide : MethodName := ⟨RX11, "isSide", "(I)Z"⟩
abbrev cX11_clipped : ByteArray := prog_1_method_47_code
def yX11_clipped : MethodName := ⟨RX11, "clipped", "(I)I"⟩
abbrev cX11_mirrored : ByteArray := prog_1_method_48_code
def yX11_mirrored : MethodName := ⟨RX11, "mirrored", "(II)I"⟩
abbrev cX11_lightOf : ByteArray := prog_1_method_49_code
def yX11_lightOf : MethodName := ⟨RX11, "lightOf", "([II)I"⟩
abbrev cX11_greatestOf : ByteArray := prog_1_method_50_code
def yX11_greatestOf : MethodName := ⟨RX11, "greatestOf", "([II)I"⟩
abbrev cX11_leastOf : ByteArray := prog_1_method_51_code
def yX11_leastOf : MethodName := ⟨RX11, "leastOf", "([II)I"⟩
abbrev cX11_blurOf : ByteArray := prog_1_method_52_code
def yX11_blurOf : MethodName := ⟨RX11, "blurOf", "(LRawPictures$Mosaic;[IIII)I"⟩
def RX12 : String := "RawPicturesModel"
def TX12 : u_T := fun k => match k with
  | 0 => ("RawPicturesModel", "valueOf", "[I", true)
  | 1 => ("RawPicturesModel", "truthOf", "[I", true)
  | 2 => ("RawPicturesModel", "letterOf", "[I", true)
  | 3 => ("RawPicturesModel", "numberAt", "[I", true)
  | 4 => ("RawPicturesModel", "numbers", "[I", true)
  | 5 => ("RawPicturesModel", "keptValue", "[I", true)
  | 6 => ("RawPicturesModel", "keptLetter", "[I", true)
  | 7 => ("RawPicturesModel", "keptAt", "[I", true)
  | 8 => ("RawPicturesModel", "keptNumbers", "[I", true)
  | 9 => ("RawPicturesModel", "isDead", "[Z", true)
  | 10 => ("RawPicturesModel", "keptDead", "[Z", true)
  | 11 => ("RawPicturesModel", "wide", "I", false)
  | 12 => ("RawPicturesModel", "high", "I", false)
  | 13 => ("RawPicturesModel", "phase", "I", false)
  | 14 => ("RawPicturesModel", "stageMany", "I", false)
  | 15 => ("RawPicturesModel", "lot", "I", false)
  | 16 => ("RawPicturesModel", "keptWide", "I", false)
  | 17 => ("RawPicturesModel", "keptHigh", "I", false)
  | 18 => ("RawPicturesModel", "keptPhase", "I", false)
  | 19 => ("RawPicturesModel", "keptMany", "I", false)
  | 20 => ("RawPicturesModel", "keptLot", "I", false)
  | 21 => ("RawPicturesModel", "isTrue", "Z", false)
  | 22 => ("RawPicturesModel", "isKept", "Z", false)
  | 23 => ("RawPicturesModel", "isLeft", "Z", false)
  | 24 => ("RawPicturesModel", "tape", "[B", true)
  | 25 => ("RawPicturesModel", "taped", "I", false)
  | 26 => ("RawPicturesModel", "place0", "I", false)
  | 27 => ("RawPicturesModel", "length0", "I", false)
  | 28 => ("RawPicturesModel", "fault", "I", false)
  | 29 => ("RawPicturesModel", "number0", "I", false)
  | 30 => ("RawPicturesModel", "newMany", "I", false)
  | 31 => ("RawPicturesModel", "newNumbers", "I", false)
  | 32 => ("RawPicturesModel", "newLetter", "[I", true)
  | 33 => ("RawPicturesModel", "newAt", "[I", true)
  | 34 => ("RawPicturesModel", "newNumber", "[I", true)
  | 35 => ("RawPicturesModel", "sets", "[I", true)
  | 36 => ("RawPicturesModel", "level", "[I", true)
  | 37 => ("RawPicturesModel", "light", "[I", true)
  | 38 => ("RawPicturesModel", "blur", "[I", true)
  | 39 => ("RawPicturesModel", "nine", "[I", true)
  | 40 => ("RawPicturesModel", "four", "[I", true)
  | 41 => ("RawPicturesModel", "floorOf", "[I", true)
  | 42 => ("RawPicturesModel", "given", "[I", true)
  | 43 => ("RawPicturesModel", "foundAt", "[Z", true)
  | 44 => ("RawPicturesModel", "gainRed", "I", false)
  | 45 => ("RawPicturesModel", "gainBlue", "I", false)
  | 46 => ("RawPicturesModel", "greys", "I", false)
  | 47 => ("RawPicturesModel", "mean", "I", false)
  | 48 => ("RawPicturesModel", "groupAt", "[I", true)
  | 49 => ("RawPicturesModel", "spread", "[I", true)
  | 50 => ("RawPicturesModel", "groupSize", "[I", true)
  | 51 => ("RawPicturesModel", "groupFirst", "[I", true)
  | 52 => ("RawPicturesModel", "listed", "[I", true)
  | _ => ("RawPicturesModel", "listedMany", "I", false)
def tyX12 : Nat → FieldType := fun k => match k with
  | 0 => .array .int
  | 1 => .array .int
  | 2 => .array .int
  | 3 => .array .int
  | 4 => .array .int
  | 5 => .array .int
  | 6 => .array .int
  | 7 => .array .int
  | 8 => .array .int
  | 9 => .array .boolean
  | 10 => .array .boolean
  | 11 => .int
  | 12 => .int
  | 13 => .int
  | 14 => .int
  | 15 => .int
  | 16 => .int
  | 17 => .int
  | 18 => .int
  | 19 => .int
  | 20 => .int
  | 21 => .boolean
  | 22 => .boolean
  | 23 => .boolean
  | 24 => .array .byte
  | 25 => .int
  | 26 => .int
  | 27 => .int
  | 28 => .int
  | 29 => .int
  | 30 => .int
  | 31 => .int
  | 32 => .array .int
  | 33 => .array .int
  | 34 => .array .int
  | 35 => .array .int
  | 36 => .array .int
  | 37 => .array .int
  | 38 => .array .int
  | 39 => .array .int
  | 40 => .array .int
  | 41 => .array .int
  | 42 => .array .int
  | 43 => .array .boolean
  | 44 => .int
  | 45 => .int
  | 46 => .int
  | 47 => .int
  | 48 => .array .int
  | 49 => .array .int
  | 50 => .array .int
  | 51 => .array .int
  | 52 => .array .int
  | _ => .int
abbrev wsX120 : List Cond := u_ws RX12 TX12 54
theorem nmX12 : ∀ a, a < 54 → ∀ b, b < 54 → a ≠ b → (TX12 a).2.1 ≠ (TX12 b).2.1 := by decide +kernel
theorem tyX12_ok : ∀ k, k < 54 → parseFieldDescriptor (TX12 k).2.2.1 = some (tyX12 k) := by decide +kernel
abbrev cX12_init : ByteArray := prog_14_method_1_code
def yX12_init : MethodName := ⟨RX12, "<init>", "()V"⟩
abbrev cX12_in : ByteArray := prog_14_method_2_code
def yX12_in : MethodName := ⟨RX12, "in", "(III)Z"⟩
abbrev cX12_min : ByteArray := prog_14_method_3_code
def yX12_min : MethodName := ⟨RX12, "min", "(II)I"⟩
abbrev cX12_max : ByteArray := prog_14_method_4_code
def yX12_max : MethodName := ⟨RX12, "max", "(II)I"⟩
abbrev cX12_size : ByteArray := prog_14_method_5_code
def yX12_size : MethodName := ⟨RX12, "size", "(I)I"⟩
abbrev cX12_clipped : ByteArray := prog_14_method_6_code
def yX12_clipped : MethodName := ⟨RX12, "clipped", "(I)I"⟩
abbrev cX12_types : ByteArray := prog_14_method_7_code
def yX12_types : MethodName := ⟨RX12, "types", "(I)V"⟩
abbrev cX12_feed : ByteArray := prog_14_method_8_code
def yX12_feed : MethodName := ⟨RX12, "feed", "(IIIII)I"⟩
abbrev cX12_here : ByteArray := prog_14_method_9_code
def yX12_here : MethodName := ⟨RX12, "here", "()I"⟩
abbrev cX12_wrongAt : ByteArray := prog_14_method_10_code
def yX12_wrongAt : MethodName := ⟨RX12, "wrongAt", "(II)Z"⟩
abbrev cX12_takesSign : ByteArray := prog_14_method_11_code
def yX12_takesSign : MethodName := ⟨RX12, "takesSign", "(I)Z"⟩
abbrev cX12_isDigit : ByteArray := prog_14_method_12_code
def yX12_isDigit : MethodName := ⟨RX12, "isDigit", "(I)Z"⟩
abbrev cX12_readsNumber : ByteArray := prog_14_method_13_code
def yX12_readsNumber : MethodName := ⟨RX12, "readsNumber", "(II)Z"⟩
abbrev cX12_readsNext : ByteArray := prog_14_method_14_code
def yX12_readsNext : MethodName := ⟨RX12, "readsNext", "(II)Z"⟩
abbrev cX12_readsCurve : ByteArray := prog_14_method_15_code
def yX12_readsCurve : MethodName := ⟨RX12, "readsCurve", "()Z"⟩
abbrev cX12_readsNumbers : ByteArray := prog_14_method_16_code
def yX12_readsNumbers : MethodName := ⟨RX12, "readsNumbers", "(I)Z"⟩
abbrev cX12_isEarly : ByteArray := prog_14_method_17_code
def yX12_isEarly : MethodName := ⟨RX12, "isEarly", "(I)Z"⟩
abbrev cX12_isLate : ByteArray := prog_14_method_18_code
def yX12_isLate : MethodName := ⟨RX12, "isLate", "(I)Z"⟩
abbrev cX12_isFilledSoFar : ByteArray := prog_14_method_19_code
def yX12_isFilledSoFar : MethodName := ⟨RX12, "isFilledSoFar", "()Z"⟩
abbrev cX12_readsStage : ByteArray := prog_14_method_20_code
def yX12_readsStage : MethodName := ⟨RX12, "readsStage", "()Z"⟩
abbrev cX12_copies : ByteArray := prog_14_method_21_code
def yX12_copies : MethodName := ⟨RX12, "copies", "([I[I)V"⟩
abbrev cX12_copiesMarks : ByteArray := prog_14_method_22_code
def yX12_copiesMarks : MethodName := ⟨RX12, "copiesMarks", "([Z[Z)V"⟩
abbrev cX12_stages : ByteArray := prog_14_method_23_code
def yX12_stages : MethodName := ⟨RX12, "stages", "(I)I"⟩
abbrev cX12_filler : ByteArray := prog_14_method_24_code
def yX12_filler : MethodName := ⟨RX12, "filler", "()I"⟩
abbrev cX12_isBehind : ByteArray := prog_14_method_25_code
def yX12_isBehind : MethodName := ⟨RX12, "isBehind", "(I)Z"⟩
abbrev cX12_isStage : ByteArray := prog_14_method_26_code
def yX12_isStage : MethodName := ⟨RX12, "isStage", "(I)Z"⟩
abbrev cX12_numberOf : ByteArray := prog_14_method_27_code
def yX12_numberOf : MethodName := ⟨RX12, "numberOf", "(II)I"⟩
abbrev cX12_numberMany : ByteArray := prog_14_method_28_code
def yX12_numberMany : MethodName := ⟨RX12, "numberMany", "(I)I"⟩
abbrev cX12_stage : ByteArray := prog_14_method_29_code
def yX12_stage : MethodName := ⟨RX12, "stage", "(II)I"⟩
abbrev cX12_isSquare : ByteArray := prog_14_method_30_code
def yX12_isSquare : MethodName := ⟨RX12, "isSquare", "(II)Z"⟩
abbrev cX12_colourAt : ByteArray := prog_14_method_31_code
def yX12_colourAt : MethodName := ⟨RX12, "colourAt", "(II)I"⟩
abbrev cX12_changed : ByteArray := prog_14_method_32_code
def yX12_changed : MethodName := ⟨RX12, "changed", "()V"⟩
abbrev cX12_raw : ByteArray := prog_14_method_33_code
def yX12_raw : MethodName := ⟨RX12, "raw", "(III)Z"⟩
abbrev cX12_row : ByteArray := prog_14_method_34_code
def yX12_row : MethodName := ⟨RX12, "row", "(I)Z"⟩
abbrev cX12_pixel : ByteArray := prog_14_method_35_code
def yX12_pixel : MethodName := ⟨RX12, "pixel", "(III)Z"⟩
abbrev cX12_deadMany : ByteArray := prog_14_method_36_code
def yX12_deadMany : MethodName := ⟨RX12, "deadMany", "()I"⟩
abbrev cX12_dead : ByteArray := prog_14_method_37_code
def yX12_dead : MethodName := ⟨RX12, "dead", "(IIZ)I"⟩
abbrev cX12_sceneAt : ByteArray := prog_14_method_38_code
def yX12_sceneAt : MethodName := ⟨RX12, "sceneAt", "(IIIII)I"⟩
abbrev cX12_scene : ByteArray := prog_14_method_39_code
def yX12_scene : MethodName := ⟨RX12, "scene", "(III)Z"⟩
abbrev cX12_truthAt : ByteArray := prog_14_method_40_code
def yX12_truthAt : MethodName := ⟨RX12, "truthAt", "(IIII)I"⟩
abbrev cX12_truth : ByteArray := prog_14_method_41_code
def yX12_truth : MethodName := ⟨RX12, "truth", "(I)Z"⟩
abbrev cX12_rawIs : ByteArray := prog_14_method_42_code
def yX12_rawIs : MethodName := ⟨RX12, "rawIs", "(I)I"⟩
abbrev cX12_colour : ByteArray := prog_14_method_43_code
def yX12_colour : MethodName := ⟨RX12, "colour", "(II)I"⟩
abbrev cX12_mirrored : ByteArray := prog_14_method_44_code
def yX12_mirrored : MethodName := ⟨RX12, "mirrored", "(II)I"⟩
abbrev cX12_at : ByteArray := prog_14_method_45_code
def yX12_at : MethodName := ⟨RX12, "at", "(IIII)I"⟩
abbrev cX12_own : ByteArray := prog_14_method_46_code
def yX12_own : MethodName := ⟨RX12, "own", "(III)I"⟩
abbrev cX12_lays : ByteArray := prog_14_method_47_code
def yX12_lays : MethodName := ⟨RX12, "lays", "(IIIII)V"⟩
abbrev cX12_laysOwn : ByteArray := prog_14_method_48_code
def yX12_laysOwn : MethodName := ⟨RX12, "laysOwn", "(IIII)V"⟩
abbrev cX12_darkOf : ByteArray := prog_14_method_49_code
def yX12_darkOf : MethodName := ⟨RX12, "darkOf", "(III)I"⟩
abbrev cX12_sorts : ByteArray := prog_14_method_50_code
def yX12_sorts : MethodName := ⟨RX12, "sorts", "([II)V"⟩
abbrev cX12_middleOf : ByteArray := prog_14_method_51_code
def yX12_middleOf : MethodName := ⟨RX12, "middleOf", "(III)I"⟩
abbrev cX12_isFound : ByteArray := prog_14_method_52_code
def yX12_isFound : MethodName := ⟨RX12, "isFound", "(IIII)Z"⟩
abbrev cX12_shaded : ByteArray := prog_14_method_53_code
def yX12_shaded : MethodName := ⟨RX12, "shaded", "(IIII)I"⟩
abbrev cX12_early : ByteArray := prog_14_method_54_code
def yX12_early : MethodName := ⟨RX12, "early", "(IIII)V"⟩
abbrev cX12_wayOf : ByteArray := prog_14_method_55_code
def yX12_wayOf : MethodName := ⟨RX12, "wayOf", "(III)I"⟩
abbrev cX12_greenOf : ByteArray := prog_14_method_56_code
def yX12_greenOf : MethodName := ⟨RX12, "greenOf", "(IIII)I"⟩
abbrev cX12_over : ByteArray := prog_14_method_57_code
def yX12_over : MethodName := ⟨RX12, "over", "(IIII)I"⟩
abbrev cX12_otherOf : ByteArray := prog_14_method_58_code
def yX12_otherOf : MethodName := ⟨RX12, "otherOf", "(IIIII)I"⟩
abbrev cX12_fills : ByteArray := prog_14_method_59_code
def yX12_fills : MethodName := ⟨RX12, "fills", "(III)V"⟩
abbrev cX12_lightAt : ByteArray := prog_14_method_60_code
def yX12_lightAt : MethodName := ⟨RX12, "lightAt", "(III)I"⟩
abbrev cX12_median : ByteArray := prog_14_method_61_code
def yX12_median : MethodName := ⟨RX12, "median", "(IIII)I"⟩
abbrev cX12_votes : ByteArray := prog_14_method_62_code
def yX12_votes : MethodName := ⟨RX12, "votes", "(III)V"⟩
abbrev cX12_greatest : ByteArray := prog_14_method_63_code
def yX12_greatest : MethodName := ⟨RX12, "greatest", "(III)I"⟩
abbrev cX12_smallest : ByteArray := prog_14_method_64_code
def yX12_smallest : MethodName := ⟨RX12, "smallest", "(III)I"⟩
abbrev cX12_findsWhite : ByteArray := prog_14_method_65_code
def yX12_findsWhite : MethodName := ⟨RX12, "findsWhite", "(II)V"⟩
abbrev cX12_curved : ByteArray := prog_14_method_66_code
def yX12_curved : MethodName := ⟨RX12, "curved", "(III)I"⟩
abbrev cX12_baseOf : ByteArray := prog_14_method_67_code
def yX12_baseOf : MethodName := ⟨RX12, "baseOf", "(IIII)I"⟩
abbrev cX12_findsMean : ByteArray := prog_14_method_68_code
def yX12_findsMean : MethodName := ⟨RX12, "findsMean", "(I)V"⟩
abbrev cX12_findsFloors : ByteArray := prog_14_method_69_code
def yX12_findsFloors : MethodName := ⟨RX12, "findsFloors", "(I)V"⟩
abbrev cX12_together : ByteArray := prog_14_method_70_code
def yX12_together : MethodName := ⟨RX12, "together", "(IIIII)I"⟩
abbrev cX12_floorAt : ByteArray := prog_14_method_71_code
def yX12_floorAt : MethodName := ⟨RX12, "floorAt", "(III)I"⟩
abbrev cX12_toneAt : ByteArray := prog_14_method_72_code
def yX12_toneAt : MethodName := ⟨RX12, "toneAt", "(III)I"⟩
abbrev cX12_blurAt : ByteArray := prog_14_method_73_code
def yX12_blurAt : MethodName := ⟨RX12, "blurAt", "(IIII)I"⟩
abbrev cX12_calmed : ByteArray := prog_14_method_74_code
def yX12_calmed : MethodName := ⟨RX12, "calmed", "(IIIIII)I"⟩
abbrev cX12_sharpened : ByteArray := prog_14_method_75_code
def yX12_sharpened : MethodName := ⟨RX12, "sharpened", "(IIIIII)I"⟩
abbrev cX12_paled : ByteArray := prog_14_method_76_code
def yX12_paled : MethodName := ⟨RX12, "paled", "(IIIII)I"⟩
abbrev cX12_gained : ByteArray := prog_14_method_77_code
def yX12_gained : MethodName := ⟨RX12, "gained", "(II)I"⟩
abbrev cX12_lateAt : ByteArray := prog_14_method_78_code
def yX12_lateAt : MethodName := ⟨RX12, "lateAt", "(IIIIIII)I"⟩
abbrev cX12_late : ByteArray := prog_14_method_79_code
def yX12_late : MethodName := ⟨RX12, "late", "(IIIII)V"⟩
abbrev cX12_does : ByteArray := prog_14_method_80_code
def yX12_does : MethodName := ⟨RX12, "does", "(III)V"⟩
abbrev cX12_leaves : ByteArray := prog_14_method_81_code
def yX12_leaves : MethodName := ⟨RX12, "leaves", "()V"⟩
abbrev cX12_leavesBy : ByteArray := prog_14_method_82_code
def yX12_leavesBy : MethodName := ⟨RX12, "leavesBy", "(II)I"⟩
abbrev cX12_isKind : ByteArray := prog_14_method_83_code
def yX12_isKind : MethodName := ⟨RX12, "isKind", "(II)Z"⟩
abbrev cX12_isRow : ByteArray := prog_14_method_84_code
def yX12_isRow : MethodName := ⟨RX12, "isRow", "(I)Z"⟩
abbrev cX12_left : ByteArray := prog_14_method_85_code
def yX12_left : MethodName := ⟨RX12, "left", "(IIII)I"⟩
abbrev cX12_marksFound : ByteArray := prog_14_method_86_code
def yX12_marksFound : MethodName := ⟨RX12, "marksFound", "(I)V"⟩
abbrev cX12_found : ByteArray := prog_14_method_87_code
def yX12_found : MethodName := ⟨RX12, "found", "(II)I"⟩
abbrev cX12_gathers : ByteArray := prog_14_method_88_code
def yX12_gathers : MethodName := ⟨RX12, "gathers", "(Z)I"⟩
abbrev cX12_spreads : ByteArray := prog_14_method_89_code
def yX12_spreads : MethodName := ⟨RX12, "spreads", "(IIZ)I"⟩
abbrev cX12_largest : ByteArray := prog_14_method_90_code
def yX12_largest : MethodName := ⟨RX12, "largest", "(I)I"⟩
abbrev cX12_groups : ByteArray := prog_14_method_91_code
def yX12_groups : MethodName := ⟨RX12, "groups", "(II)I"⟩
abbrev cX12_dark : ByteArray := prog_14_method_92_code
def yX12_dark : MethodName := ⟨RX12, "dark", "(II)I"⟩
abbrev cX12_middle : ByteArray := prog_14_method_93_code
def yX12_middle : MethodName := ⟨RX12, "middle", "(III)I"⟩
abbrev cX12_isAlongEdges : ByteArray := prog_14_method_94_code
def yX12_isAlongEdges : MethodName := ⟨RX12, "isAlongEdges", "()Z"⟩
abbrev cX12_way : ByteArray := prog_14_method_95_code
def yX12_way : MethodName := ⟨RX12, "way", "(II)I"⟩
abbrev cX12_ways : ByteArray := prog_14_method_96_code
def yX12_ways : MethodName := ⟨RX12, "ways", "(I)I"⟩
abbrev cX12_white : ByteArray := prog_14_method_97_code
def yX12_white : MethodName := ⟨RX12, "white", "(II)I"⟩
abbrev cX12_base : ByteArray := prog_14_method_98_code
def yX12_base : MethodName := ⟨RX12, "base", "(III)I"⟩
abbrev cX12_tone : ByteArray := prog_14_method_99_code
def yX12_tone : MethodName := ⟨RX12, "tone", "(IIII)I"⟩
abbrev cX12_lists : ByteArray := prog_14_method_100_code
def yX12_lists : MethodName := ⟨RX12, "lists", "(II)V"⟩
abbrev cX12_isLeftOf : ByteArray := prog_14_method_101_code
def yX12_isLeftOf : MethodName := ⟨RX12, "isLeftOf", "(II)Z"⟩
abbrev cX12_within : ByteArray := prog_14_method_102_code
def yX12_within : MethodName := ⟨RX12, "within", "(II)I"⟩
abbrev cX12_unlikeOnes : ByteArray := prog_14_method_103_code
def yX12_unlikeOnes : MethodName := ⟨RX12, "unlikeOnes", "()I"⟩
abbrev cX12_levels : ByteArray := prog_14_method_104_code
def yX12_levels : MethodName := ⟨RX12, "levels", "(III)I"⟩
abbrev cX12_noiseOf : ByteArray := prog_14_method_105_code
def yX12_noiseOf : MethodName := ⟨RX12, "noiseOf", "(IIII)I"⟩
abbrev cX12_noise : ByteArray := prog_14_method_106_code
def yX12_noise : MethodName := ⟨RX12, "noise", "(IIII)I"⟩
abbrev cX12_percent : ByteArray := prog_14_method_107_code
def yX12_percent : MethodName := ⟨RX12, "percent", "(III)I"⟩
abbrev cX12_binaryDigits : ByteArray := prog_14_method_108_code
def yX12_binaryDigits : MethodName := ⟨RX12, "binaryDigits", "(I)I"⟩
abbrev cX12_bits : ByteArray := prog_14_method_109_code
def yX12_bits : MethodName := ⟨RX12, "bits", "(II)I"⟩
abbrev cX12_ringOf : ByteArray := prog_14_method_110_code
def yX12_ringOf : MethodName := ⟨RX12, "ringOf", "(II)I"⟩
abbrev cX12_ring : ByteArray := prog_14_method_111_code
def yX12_ring : MethodName := ⟨RX12, "ring", "(IIII)I"⟩
abbrev cX12_edges : ByteArray := prog_14_method_112_code
def yX12_edges : MethodName := ⟨RX12, "edges", "(II)I"⟩
abbrev cX12_errorOf : ByteArray := prog_14_method_113_code
def yX12_errorOf : MethodName := ⟨RX12, "errorOf", "(III)J"⟩
abbrev cX12_error : ByteArray := prog_14_method_114_code
def yX12_error : MethodName := ⟨RX12, "error", "(III)J"⟩
abbrev cX12_falseOf : ByteArray := prog_14_method_115_code
def yX12_falseOf : MethodName := ⟨RX12, "falseOf", "(II)I"⟩
abbrev cX12_falseOnes : ByteArray := prog_14_method_116_code
def yX12_falseOnes : MethodName := ⟨RX12, "falseOnes", "(II)I"⟩
abbrev cX12_places : ByteArray := prog_14_method_117_code
def yX12_places : MethodName := ⟨RX12, "places", "(IIII)I"⟩
abbrev cX12_unlikeOf : ByteArray := prog_14_method_118_code
def yX12_unlikeOf : MethodName := ⟨RX12, "unlikeOf", "(IIZI)I"⟩
abbrev cX12_unlike : ByteArray := prog_14_method_119_code
def yX12_unlike : MethodName := ⟨RX12, "unlike", "(III)I"⟩
abbrev cX12_without : ByteArray := prog_14_method_120_code
def yX12_without : MethodName := ⟨RX12, "without", "(II)I"⟩
abbrev cX12_isTunable : ByteArray := prog_14_method_121_code
def yX12_isTunable : MethodName := ⟨RX12, "isTunable", "(I)Z"⟩
abbrev cX12_badness : ByteArray := prog_14_method_122_code
def yX12_badness : MethodName := ⟨RX12, "badness", "(II)J"⟩
abbrev cX12_best : ByteArray := prog_14_method_123_code
def yX12_best : MethodName := ⟨RX12, "best", "(II)I"⟩
abbrev cX12_seed : ByteArray := prog_14_method_124_code
def yX12_seed : MethodName := ⟨RX12, "seed", "(I)Z"⟩
abbrev cX12_keep : ByteArray := prog_14_method_125_code
def yX12_keep : MethodName := ⟨RX12, "keep", "()I"⟩
abbrev cX12_undo : ByteArray := prog_14_method_126_code
def yX12_undo : MethodName := ⟨RX12, "undo", "()Z"⟩
abbrev cX12_check : ByteArray := prog_14_method_127_code
def yX12_check : MethodName := ⟨RX12, "check", "(I)I"⟩
abbrev cX12_count : ByteArray := prog_14_method_128_code
def yX12_count : MethodName := ⟨RX12, "count", "(I)I"⟩
def RJx145de : String := "java/io/Serializable"
def TJx145de : u_T := fun k => match k with
  | _ => ("", "", "", false)
def tyJx145de : Nat → FieldType := fun k => match k with
  | _ => .int
theorem nmJx145de : ∀ a, a < 0 → ∀ b, b < 0 → a ≠ b → (TJx145de a).2.1 ≠ (TJx145de b).2.1 := by decide +kernel
theorem tyJx145de_ok : ∀ k, k < 0 → parseFieldDescriptor (TJx145de k).2.2.1 = some (tyJx145de k) := by decide +kernel
def RJx9f9b0 : String := "java/lang/CharSequence"
def TJx9f9b0 : u_T := fun k => match k with
  | _ => ("", "", "", false)
def tyJx9f9b0 : Nat → FieldType := fun k => match k with
  | _ => .int
theorem nmJx9f9b0 : ∀ a, a < 0 → ∀ b, b < 0 → a ≠ b → (TJx9f9b0 a).2.1 ≠ (TJx9f9b0 b).2.1 := by decide +kernel
theorem tyJx9f9b0_ok : ∀ k, k < 0 → parseFieldDescriptor (TJx9f9b0 k).2.2.1 = some (tyJx9f9b0 k) := by decide +kernel
def RJ11 : String := "java/lang/Character"
def TJ11 : u_T := fun k => match k with
  | _ => ("", "", "", false)
def tyJ11 : Nat → FieldType := fun k => match k with
  | _ => .int
theorem nmJ11 : ∀ a, a < 0 → ∀ b, b < 0 → a ≠ b → (TJ11 a).2.1 ≠ (TJ11 b).2.1 := by decide +kernel
theorem tyJ11_ok : ∀ k, k < 0 → parseFieldDescriptor (TJ11 k).2.2.1 = some (tyJ11 k) := by decide +kernel
abbrev cJ11_isValidCodePoint_9a6ad : ByteArray := prog_15_method_11_code
def yJ11_isValidCodePoint_9a6ad : MethodName := ⟨RJ11, "isValidCodePoint", "(I)Z"⟩
abbrev cJ11_highSurrogate_5068e : ByteArray := prog_15_method_28_code
def yJ11_highSurrogate_5068e : MethodName := ⟨RJ11, "highSurrogate", "(I)C"⟩
abbrev cJ11_lowSurrogate_5068e : ByteArray := prog_15_method_29_code
def yJ11_lowSurrogate_5068e : MethodName := ⟨RJ11, "lowSurrogate", "(I)C"⟩
def RJxb160c : String := "java/lang/Comparable"
def TJxb160c : u_T := fun k => match k with
  | _ => ("", "", "", false)
def tyJxb160c : Nat → FieldType := fun k => match k with
  | _ => .int
theorem nmJxb160c : ∀ a, a < 0 → ∀ b, b < 0 → a ≠ b → (TJxb160c a).2.1 ≠ (TJxb160c b).2.1 := by decide +kernel
theorem tyJxb160c_ok : ∀ k, k < 0 → parseFieldDescriptor (TJxb160c k).2.2.1 = some (tyJxb160c k) := by decide +kernel
def RJ13 : String := "java/lang/Long"
def TJ13 : u_T := fun k => match k with
  | _ => ("", "", "", false)
def tyJ13 : Nat → FieldType := fun k => match k with
  | _ => .int
theorem nmJ13 : ∀ a, a < 0 → ∀ b, b < 0 → a ≠ b → (TJ13 a).2.1 ≠ (TJ13 b).2.1 := by decide +kernel
theorem tyJ13_ok : ∀ k, k < 0 → parseFieldDescriptor (TJ13 k).2.2.1 = some (tyJ13 k) := by decide +kernel
abbrev cJ13_bitCount_95d88 : ByteArray := prog_16_method_50_code
def yJ13_bitCount_95d88 : MethodName := ⟨RJ13, "bitCount", "(J)I"⟩
def RJ9 : String := "java/lang/Math"
def TJ9 : u_T := fun k => match k with
  | _ => ("", "", "", false)
def tyJ9 : Nat → FieldType := fun k => match k with
  | _ => .int
theorem nmJ9 : ∀ a, a < 0 → ∀ b, b < 0 → a ≠ b → (TJ9 a).2.1 ≠ (TJ9 b).2.1 := by decide +kernel
theorem tyJ9_ok : ∀ k, k < 0 → parseFieldDescriptor (TJ9 k).2.2.1 = some (tyJ9 k) := by decide +kernel
abbrev cJ9_abs_0f7a4 : ByteArray := prog_17_method_59_code
def yJ9_abs_0f7a4 : MethodName := ⟨RJ9, "abs", "(I)I"⟩
abbrev cJ9_max_7cf53 : ByteArray := prog_17_method_65_code
def yJ9_max_7cf53 : MethodName := ⟨RJ9, "max", "(II)I"⟩
abbrev cJ9_max_f86c9 : ByteArray := prog_17_method_66_code
def yJ9_max_f86c9 : MethodName := ⟨RJ9, "max", "(JJ)J"⟩
abbrev cJ9_min_7cf53 : ByteArray := prog_17_method_69_code
def yJ9_min_7cf53 : MethodName := ⟨RJ9, "min", "(II)I"⟩
def RJ0 : String := "java/lang/String"
def TJ0 : u_T := fun k => match k with
  | _ => ("", "", "", false)
def tyJ0 : Nat → FieldType := fun k => match k with
  | _ => .int
theorem nmJ0 : ∀ a, a < 0 → ∀ b, b < 0 → a ≠ b → (TJ0 a).2.1 ≠ (TJ0 b).2.1 := by decide +kernel
theorem tyJ0_ok : ∀ k, k < 0 → parseFieldDescriptor (TJ0 k).2.2.1 = some (tyJ0 k) := by decide +kernel
abbrev cJ0_length_8abf5 : ByteArray := prog_18_method_54_code
def yJ0_length_8abf5 : MethodName := ⟨RJ0, "length", "()I"⟩
abbrev cJ0_indexOf_0f7a4 : ByteArray := prog_18_method_79_code
def yJ0_indexOf_0f7a4 : MethodName := ⟨RJ0, "indexOf", "(I)I"⟩
abbrev cJ0_indexOf_7cf53 : ByteArray := prog_18_method_80_code
def yJ0_indexOf_7cf53 : MethodName := ⟨RJ0, "indexOf", "(II)I"⟩
abbrev cJ0_coder_7d493 : ByteArray := prog_18_method_152_code
def yJ0_coder_7d493 : MethodName := ⟨RJ0, "coder", "()B"⟩
abbrev cJ0_isLatin1_aae02 : ByteArray := prog_18_method_154_code
def yJ0_isLatin1_aae02 : MethodName := ⟨RJ0, "isLatin1", "()Z"⟩
abbrev cJ0_checkBoundsBeginEnd_23922 : ByteArray := prog_18_method_158_code
def yJ0_checkBoundsBeginEnd_23922 : MethodName := ⟨RJ0, "checkBoundsBeginEnd", "(III)V"⟩
def RJ1 : String := "java/lang/StringLatin1"
def TJ1 : u_T := fun k => match k with
  | _ => ("", "", "", false)
def tyJ1 : Nat → FieldType := fun k => match k with
  | _ => .int
theorem nmJ1 : ∀ a, a < 0 → ∀ b, b < 0 → a ≠ b → (TJ1 a).2.1 ≠ (TJ1 b).2.1 := by decide +kernel
theorem tyJ1_ok : ∀ k, k < 0 → parseFieldDescriptor (TJ1 k).2.2.1 = some (tyJ1 k) := by decide +kernel
abbrev cJ1_canEncode_9a6ad : ByteArray := prog_19_method_4_code
def yJ1_canEncode_9a6ad : MethodName := ⟨RJ1, "canEncode", "(I)Z"⟩
abbrev cJ1_indexOf_4cfef : ByteArray := prog_19_method_22_code
def yJ1_indexOf_4cfef : MethodName := ⟨RJ1, "indexOf", "([BIII)I"⟩
abbrev cJ1_indexOfChar_4cfef : ByteArray := prog_19_method_23_code
def yJ1_indexOfChar_4cfef : MethodName := ⟨RJ1, "indexOfChar", "([BIII)I"⟩
def RJ2 : String := "java/lang/StringUTF16"
def TJ2 : u_T := fun k => match k with
  | _ => ("", "", "", false)
def tyJ2 : Nat → FieldType := fun k => match k with
  | _ => .int
theorem nmJ2 : ∀ a, a < 0 → ∀ b, b < 0 → a ≠ b → (TJ2 a).2.1 ≠ (TJ2 b).2.1 := by decide +kernel
theorem tyJ2_ok : ∀ k, k < 0 → parseFieldDescriptor (TJ2 k).2.2.1 = some (tyJ2 k) := by decide +kernel
abbrev cJ2_getChar_3b067 : ByteArray := prog_20_method_5_code
def yJ2_getChar_3b067 : MethodName := ⟨RJ2, "getChar", "([BI)C"⟩
abbrev cJ2_length_9d52b : ByteArray := prog_20_method_6_code
def yJ2_length_9d52b : MethodName := ⟨RJ2, "length", "([B)I"⟩
abbrev cJ2_indexOf_4cfef : ByteArray := prog_20_method_40_code
def yJ2_indexOf_4cfef : MethodName := ⟨RJ2, "indexOf", "([BIII)I"⟩
abbrev cJ2_indexOfChar_4cfef : ByteArray := prog_20_method_47_code
def yJ2_indexOfChar_4cfef : MethodName := ⟨RJ2, "indexOfChar", "([BIII)I"⟩
abbrev cJ2_indexOfCharUnsafe_4cfef : ByteArray := prog_20_method_48_code
def yJ2_indexOfCharUnsafe_4cfef : MethodName := ⟨RJ2, "indexOfCharUnsafe", "([BIII)I"⟩
abbrev cJ2_indexOfSupplementary_4cfef : ByteArray := prog_20_method_49_code
def yJ2_indexOfSupplementary_4cfef : MethodName := ⟨RJ2, "indexOfSupplementary", "([BIII)I"⟩
abbrev cJ2_checkBoundsBeginEnd_d044e : ByteArray := prog_20_method_93_code
def yJ2_checkBoundsBeginEnd_d044e : MethodName := ⟨RJ2, "checkBoundsBeginEnd", "(II[B)V"⟩
def RJ10 : String := "java/lang/System"
def TJ10 : u_T := fun k => match k with
  | _ => ("", "", "", false)
def tyJ10 : Nat → FieldType := fun k => match k with
  | _ => .int
theorem nmJ10 : ∀ a, a < 0 → ∀ b, b < 0 → a ≠ b → (TJ10 a).2.1 ≠ (TJ10 b).2.1 := by decide +kernel
theorem tyJ10_ok : ∀ k, k < 0 → parseFieldDescriptor (TJ10 k).2.2.1 = some (tyJ10 k) := by decide +kernel
def RJxfd54e : String := "java/lang/constant/Constable"
def TJxfd54e : u_T := fun k => match k with
  | _ => ("", "", "", false)
def tyJxfd54e : Nat → FieldType := fun k => match k with
  | _ => .int
theorem nmJxfd54e : ∀ a, a < 0 → ∀ b, b < 0 → a ≠ b → (TJxfd54e a).2.1 ≠ (TJxfd54e b).2.1 := by decide +kernel
theorem tyJxfd54e_ok : ∀ k, k < 0 → parseFieldDescriptor (TJxfd54e k).2.2.1 = some (tyJxfd54e k) := by decide +kernel
def RJx3cf43 : String := "java/lang/constant/ConstantDesc"
def TJx3cf43 : u_T := fun k => match k with
  | _ => ("", "", "", false)
def tyJx3cf43 : Nat → FieldType := fun k => match k with
  | _ => .int
theorem nmJx3cf43 : ∀ a, a < 0 → ∀ b, b < 0 → a ≠ b → (TJx3cf43 a).2.1 ≠ (TJx3cf43 b).2.1 := by decide +kernel
theorem tyJx3cf43_ok : ∀ k, k < 0 → parseFieldDescriptor (TJx3cf43 k).2.2.1 = some (tyJx3cf43 k) := by decide +kernel
def RJ7 : String := "java/util/Arrays"
def TJ7 : u_T := fun k => match k with
  | _ => ("", "", "", false)
def tyJ7 : Nat → FieldType := fun k => match k with
  | _ => .int
theorem nmJ7 : ∀ a, a < 0 → ∀ b, b < 0 → a ≠ b → (TJ7 a).2.1 ≠ (TJ7 b).2.1 := by decide +kernel
theorem tyJ7_ok : ∀ k, k < 0 → parseFieldDescriptor (TJ7 k).2.2.1 = some (tyJ7 k) := by decide +kernel
abbrev cJ7_fill_d0a16 : ByteArray := prog_22_method_101_code
def yJ7_fill_d0a16 : MethodName := ⟨RJ7, "fill", "([JJ)V"⟩
abbrev cJ7_fill_53178 : ByteArray := prog_22_method_103_code
def yJ7_fill_53178 : MethodName := ⟨RJ7, "fill", "([II)V"⟩
def RJ3 : String := "jdk/internal/util/Preconditions"
def TJ3 : u_T := fun k => match k with
  | _ => ("", "", "", false)
def tyJ3 : Nat → FieldType := fun k => match k with
  | _ => .int
theorem nmJ3 : ∀ a, a < 0 → ∀ b, b < 0 → a ≠ b → (TJ3 a).2.1 ≠ (TJ3 b).2.1 := by decide +kernel
theorem tyJ3_ok : ∀ k, k < 0 → parseFieldDescriptor (TJ3 k).2.2.1 = some (tyJ3 k) := by decide +kernel
abbrev cJ3_checkFromToIndex_8c36e : ByteArray := prog_23_method_12_code
def yJ3_checkFromToIndex_8c36e : MethodName := ⟨RJ3, "checkFromToIndex", "(IIILjava/util/function/BiFunction;)I"⟩
def RL : String := "RawPicturesLaw"
abbrev cL_law : ByteArray := code
def yL_law : MethodName := ⟨RL, "law", "([I)Z"⟩
abbrev vwCl : List vw_C := [(RX0, TX0, 8), (RX1, TX1, 8), (RX2, TX2, 1), (RX3, TX3, 7), (RX4, TX4, 12), (RX5, TX5, 5), (RX6, TX6, 5), (RX7, TX7, 5), (RX8, TX8, 2), (RX9, TX9, 2), (RX10, TX10, 2), (RX11, TX11, 13), (RX12, TX12, 54)]
end
section
/-! The judgement zV: the machine's W over a heap that is a plain function (cell, place) -> Int; ints are Int32.ofInt of integers -/
def okW : Cond → Bool
  | .arrayClass _ => true
  | .fieldLinkNest _ _ _ _ _ _ => true
  | .methodLinkNest _ _ _ _ => true
  | w => w.onTables && w.keeps
def gT : List Cond := lw_tbl.filter okW
theorem gT_in {w : Cond} (h : w ∈ lw_tbl) (hk : okW w = true) : w ∈ gT := List.mem_filter.mpr ⟨h, hk⟩
theorem gT_at {w : Cond} (i : Nat) (h : tables_1[i]? = some w) (hk : okW w = true) : w ∈ gT := gT_in (List.mem_append_right _ (List.mem_of_getElem? h)) hk
theorem gT_pv {w : Cond} (i : Nat) (h : (k2_sels lw_privs)[i]? = some w) (hk : okW w = true) : w ∈ gT := gT_in (List.mem_append_left _ (List.mem_of_getElem? h)) hk
theorem okW_pay {s : State} {args : Array Value} {w : Cond} (hk : okW w = true) (h : w.before args s = true) (a' : Array Value) (U : State) (hW : s.WarmedH U.vm) : w.before a' U = true := by
  by_cases hg : goodWord w = true
  · exact word_at hW (good_of_word hg) h
  · cases w with
    | fieldLinkNest a i b n d z => exact va_Nw.use rfl (va_Nw.warmF hW (va_Nw.of rfl h))
    | methodLinkNest a i x z => exact va_Nw.use rfl (va_Nw.warmM hW (va_Nw.of rfl h))
    | arrayClass t => exact absurd rfl hg
    | _ => exact absurd hk hg
theorem gT_pay {s : State} {args : Array Value} (h : ∀ w ∈ gT, w.before args s = true) : ∀ w ∈ gT, ∀ (a' : Array Value) (U : State), s.WarmedH U.vm → w.before a' U = true :=
  fun w hw a' U hW => okW_pay (List.mem_filter.mp hw).2 (h w hw) a' U hW
/-- symbolic values: an int, a long, a reference to a cell of the world -/
abbrev Sv : Type := Int ⊕ (Int ⊕ Nat)
abbrev Hp : Type := Nat → Nat → Int
abbrev Lo : Type := List (Option Sv)
abbrev Gl : Type := Launch × va_G × (Nat → ClassId) × (Nat → Nat)
abbrev Mt : Type := ByteArray × Nat × Option FieldType × String × Room
def dn (ad : Nat → Nat) : Sv → Value
  | .inl a => .int (Int32.ofInt a)
  | .inr (.inl a) => .long (Int64.ofInt a)
  | .inr (.inr k) => .ref (ad k)
def zwr (h : Hp) (k i : Nat) (v : Int) : Hp := fun k' i' => if k' = k then (if i' = i then v else h k i') else h k' i'
/-- a cell's form: (0, class, kinds of its fields: 0 int, 1 long, 2+c the cell c), (1, array class, [length]) of ints, (2, ..) of longs, (3, array class, cells) of references -/
abbrev Ds : Type := Nat × Nat × List Nat
def fv (ad : Nat → Nat) (f : Nat → Int) (i : Nat) : Nat → Value
  | 0 => .int (Int32.ofInt (f i))
  | 1 => .long (Int64.ofInt (f i))
  | (c + 2) => .ref (ad c)
def fld (ad : Nat → Nat) (f : Nat → Int) : Nat → List Nat → List Value
  | _, [] => []
  | i, c :: cs => fv ad f i c :: fld ad f (i + 1) cs
def cellOf (ca : Nat → ClassId) (ad : Nat → Nat) (d : Ds) (f : Nat → Int) : va_E := match d with
  | (0, ci, cs) => .inr (ci, fld ad f 0 cs)
  | (1, t, ns) => .inl (ca t, ns.headD 0, .inl (fun j => Int32.ofInt (f j)))
  | (2, t, ns) => .inl (ca t, ns.headD 0, .inr (.inl (fun j => Int64.ofInt (f j))))
  | (_, t, ids) => .inl (ca t, ids.length, .inr (.inr (.inr (.inr (fun j => (ids[j]?).map ad)))))
def wlFrom (ca : Nat → ClassId) (ad : Nat → Nat) (h : Hp) : Nat → List Ds → va_W
  | _, [] => []
  | k, d :: ds => (ad k, cellOf ca ad d (h k)) :: wlFrom ca ad h (k + 1) ds
theorem fld_get (ad : Nat → Nat) (f : Nat → Int) : ∀ (cs : List Nat) (i k : Nat) (c : Nat), cs[k]? = some c → (fld ad f i cs)[k]? = some (fv ad f (i + k) c)
  | [], _, k, _, h => by simp at h
  | c :: cs, i, 0, c', h => by
    simp at h
    subst h
    simp [fld]
  | c :: cs, i, k + 1, c', h => by
    have h' : cs[k]? = some c' := by simpa using h
    have := fld_get ad f cs (i + 1) k c' h'
    simp only [fld, List.getElem?_cons_succ]
    rw [this, show i + 1 + k = i + (k + 1) by omega]
theorem fld_len (ad : Nat → Nat) (f : Nat → Int) : ∀ (cs : List Nat) (i : Nat), (fld ad f i cs).length = cs.length
  | [], _ => rfl
  | c :: cs, i => by simp [fld, fld_len ad f cs (i + 1)]
theorem fld_cong (ad : Nat → Nat) (f g : Nat → Int) : ∀ (cs : List Nat) (i : Nat), (∀ j, i ≤ j → f j = g j) → fld ad f i cs = fld ad g i cs
  | [], _, _ => rfl
  | c :: cs, i, h => by
    simp only [fld]
    rw [fld_cong ad f g cs (i + 1) (fun j hj => h j (by omega))]
    congr 1
    match c with
    | 0 => simp [fv, h i (Nat.le_refl i)]
    | 1 => simp [fv, h i (Nat.le_refl i)]
    | c + 2 => rfl
theorem fld_set (ad : Nat → Nat) (f : Nat → Int) (v : Int) : ∀ (cs : List Nat) (i k : Nat) (c : Nat), cs[k]? = some c → c < 2 →
    (fld ad f i cs).set k (fv ad (fun _ => v) (i + k) c) = fld ad (fun j => if j = i + k then v else f j) i cs
  | [], _, k, _, h, _ => by simp at h
  | c :: cs, i, 0, c', h, hc => by
    simp at h
    subst h
    simp only [fld, List.set_cons_zero, Nat.add_zero]
    rw [fld_cong ad f (fun j => if j = i then v else f j) cs (i + 1) (fun j hj => by rw [if_neg (by omega)])]
    congr 1
    match c, hc with
    | 0, _ => simp [fv]
    | 1, _ => simp [fv]
  | c :: cs, i, k + 1, c', h, hc => by
    have h' : cs[k]? = some c' := by simpa using h
    have := fld_set ad f v cs (i + 1) k c' h' hc
    simp only [fld, List.set_cons_succ]
    rw [show i + (k + 1) = i + 1 + k by omega, this]
    congr 1
    match c with
    | 0 => simp only [fv]; rw [if_neg (by omega)]
    | 1 => simp only [fv]; rw [if_neg (by omega)]
    | c + 2 => rfl
theorem wlF_get (ca : Nat → ClassId) (ad : Nat → Nat) (h : Hp) : ∀ (ds : List Ds) (n k : Nat) (d : Ds), ds[k]? = some d → (wlFrom ca ad h n ds)[k]? = some (ad (n + k), cellOf ca ad d (h (n + k)))
  | [], _, k, _, e => by simp at e
  | d :: ds, n, 0, d', e => by
    simp at e
    subst e
    simp [wlFrom]
  | d :: ds, n, k + 1, d', e => by
    have e' : ds[k]? = some d' := by simpa using e
    have := wlF_get ca ad h ds (n + 1) k d' e'
    simp only [wlFrom, List.getElem?_cons_succ]
    rw [this, show n + 1 + k = n + (k + 1) by omega]
theorem wlF_inv (ca : Nat → ClassId) (ad : Nat → Nat) (h : Hp) : ∀ (ds : List Ds) (n k : Nat) (q : Nat × va_E), (wlFrom ca ad h n ds)[k]? = some q → ∃ d, ds[k]? = some d ∧ q = (ad (n + k), cellOf ca ad d (h (n + k)))
  | [], _, k, _, e => by simp [wlFrom] at e
  | d :: ds, n, 0, q, e => by
    simp [wlFrom] at e
    exact ⟨d, by simp, by rw [← e]; simp⟩
  | d :: ds, n, k + 1, q, e => by
    simp only [wlFrom, List.getElem?_cons_succ] at e
    obtain ⟨d', h1, h2⟩ := wlF_inv ca ad h ds (n + 1) k q e
    exact ⟨d', by simpa using h1, by rw [h2, show n + 1 + k = n + (k + 1) by omega]⟩
theorem wlF_cong (ca : Nat → ClassId) (ad : Nat → Nat) (h h' : Hp) : ∀ (ds : List Ds) (n : Nat), (∀ k, n ≤ k → h k = h' k) → wlFrom ca ad h n ds = wlFrom ca ad h' n ds
  | [], _, _ => rfl
  | d :: ds, n, e => by
    simp only [wlFrom]
    rw [wlF_cong ca ad h h' ds (n + 1) (fun k hk => e k (by omega)), e n (Nat.le_refl n)]
theorem wlF_set (ca : Nat → ClassId) (ad : Nat → Nat) (h : Hp) (f : Nat → Int) : ∀ (ds : List Ds) (n k : Nat) (d : Ds), ds[k]? = some d →
    (wlFrom ca ad h n ds).set k (ad (n + k), cellOf ca ad d f) = wlFrom ca ad (fun k' => if k' = n + k then f else h k') n ds
  | [], _, k, _, e => by simp at e
  | d :: ds, n, 0, d', e => by
    simp at e
    subst e
    simp only [wlFrom, List.set_cons_zero, Nat.add_zero]
    rw [wlF_cong ca ad h (fun k' => if k' = n then f else h k') ds (n + 1) (fun j hj => by rw [if_neg (by omega)])]
    simp
  | d :: ds, n, k + 1, d', e => by
    have e' : ds[k]? = some d' := by simpa using e
    have := wlF_set ca ad h f ds (n + 1) k d' e'
    simp only [wlFrom, List.set_cons_succ]
    rw [show n + (k + 1) = n + 1 + k by omega, this]
    rw [if_neg (by omega)]
end
section
/-! The cells of the two systems: the reference (0 to 29), the class (30 to 101) -/
def tab : List Ds := [
  (0, 12, [2+1, 2+2, 2+3, 2+4, 2+5, 2+6, 2+7, 2+8, 2+9, 2+10, 2+11, 0, 0, 0, 0, 0, 0, 0, 0, 0, 0, 0, 0, 0, 2+12, 0, 0, 0, 0, 0, 0, 0, 2+13, 2+14, 2+15, 2+16, 2+17, 2+18, 2+19, 2+20, 2+21, 2+22, 2+23, 2+24, 0, 0, 0, 0, 2+25, 2+26, 2+27, 2+28, 2+29, 0]),
  (1, 0, [256]), (1, 0, [768]), (1, 0, [12]), (1, 0, [13]), (1, 0, [130]), (1, 0, [256]), (1, 0, [12]), (1, 0, [13]), (1, 0, [130]), (1, 1, [256]), (1, 1, [256]), (1, 2, [140]),
  (1, 0, [12]), (1, 0, [13]), (1, 0, [130]), (1, 0, [6]), (1, 0, [11520]), (1, 0, [256]), (1, 0, [768]), (1, 0, [9]), (1, 0, [4]), (1, 0, [1024]), (1, 0, [130]), (1, 1, [256]),
  (1, 0, [256]), (1, 0, [256]), (1, 0, [256]), (1, 0, [256]), (1, 0, [256]),
  (0, 11, [2+31, 2+33, 2+39, 2+41, 2+53, 2+54, 2+95, 2+98, 2+36, 2+45, 0, 0, 0]),
  (0, 9, [2+32, 0]), (1, 0, [140]),
  (0, 5, [0, 0, 0, 2+34, 2+35]), (1, 0, [256]), (1, 0, [256]),
  (0, 5, [0, 0, 0, 2+37, 2+38]), (1, 0, [256]), (1, 0, [256]),
  (0, 10, [2+40, 0]), (1, 0, [768]),
  (0, 7, [0, 0, 2+42, 2+43, 2+44]), (1, 0, [14]), (1, 0, [14]), (1, 0, [64]),
  (0, 7, [0, 0, 2+46, 2+47, 2+48]), (1, 0, [14]), (1, 0, [14]), (1, 0, [64]),
  (0, 7, [0, 0, 2+50, 2+51, 2+52]), (1, 0, [14]), (1, 0, [14]), (1, 0, [64]),
  (0, 6, [2+49, 2+31, 0, 0, 0]),
  (0, 1, [2+86, 2+87, 2+33, 2+41, 2+55, 2+69, 2+70, 0]), (3, 4, [56, 57, 58, 59, 60, 61, 62, 63, 64, 65, 66, 67, 68]),
  (0, 8, [2+71, 0]), (0, 8, [2+72, 0]), (0, 8, [2+73, 0]), (0, 8, [2+74, 0]), (0, 8, [2+75, 0]), (0, 8, [2+76, 0]), (0, 8, [2+77, 0]), (0, 8, [2+78, 0]), (0, 8, [2+79, 0]), (0, 8, [2+80, 0]), (0, 8, [2+81, 0]), (0, 8, [2+82, 0]), (0, 8, [2+83, 0]), (0, 8, [2+84, 0]), (0, 8, [2+85, 0]),
  (1, 0, [768]), (1, 0, [768]), (1, 0, [768]), (1, 0, [768]), (1, 0, [768]), (1, 0, [768]), (1, 0, [768]), (1, 0, [768]), (1, 0, [768]), (1, 0, [768]), (1, 0, [768]), (1, 0, [768]), (1, 0, [768]), (1, 0, [768]), (1, 0, [768]),
  (0, 2, [2+33]),
  (0, 3, [0, 0, 0, 2+88, 2+89, 2+94, 2+33]), (1, 0, [256]), (3, 5, [90, 91, 92, 93]), (1, 0, [256]), (1, 0, [256]), (1, 0, [256]), (1, 0, [256]), (1, 0, [9]),
  (0, 4, [0, 0, 0, 0, 1, 1, 1, 0, 0, 2+96, 2+97, 2+33]), (1, 0, [256]), (2, 3, [64]),
  (0, 0, [0, 0, 0, 2+99, 2+100, 2+101, 0, 2+33]), (1, 0, [256]), (1, 0, [256]), (1, 0, [256])]
theorem tab_len : tab.length = 102 := by decide +kernel
abbrev Gx : Type := (State → Prop)
abbrev Ga : Type := Launch × va_G × (Nat → ClassId) × (Nat → Nat) × Gx
abbrev zD (G : Ga) : va_G := G.2.1
abbrev zca (G : Ga) : Nat → ClassId := G.2.2.1
abbrev zad (G : Ga) : Nat → Nat := G.2.2.2.1
abbrev zX (G : Ga) : State → Prop := G.2.2.2.2
def zA (G : Ga) : Nat → Prop := fun q => ∃ k, k < 102 ∧ q = zad G k
def ztys (G : Ga) : List (ClassId × FieldType) := [(zca G 0, .int), (zca G 1, .boolean), (zca G 2, .byte), (zca G 3, .long), (zca G 4, .object "RawPictures$Sheet"), (zca G 5, .array .int)]
def zInj (G : Ga) : Prop := ∀ i j, i < 102 → j < 102 → zad G i = zad G j → i = j
def zXS (G : Ga) : Prop := ∀ (u U : State), zX G u → (u.WarmedH U.vm ∨ U.vm = u.vm) → u.heap.size ≤ U.heap.size → (∀ q : Nat, q < u.heap.size → ¬ zA G q → U.heap[q]? = u.heap[q]?) → zX G U
def zwl (G : Ga) (h : Hp) : va_W := wlFrom (zca G) (zad G) h 0 tab
def zP (G : Ga) (h : Hp) (H : Heap) : Prop := va_P (zD G) vwCl (zwl G h) H
def zK (G : Ga) (U : State) : Prop := va_K (zD G) vwCl (ztys G) U
theorem zwl_get {G : Ga} {h : Hp} {k : Nat} {d : Ds} (e : tab[k]? = some d) : (zwl G h)[k]? = some (zad G k, cellOf (zca G) (zad G) d (h k)) := by
  have := wlF_get (zca G) (zad G) h tab 0 k d e
  rwa [Nat.zero_add] at this
theorem zwl_D {G : Ga} {h : Hp} (hI : zInj G) : va_D (zA G) (zwl G h) := by
  have key : ∀ (k : Nat) (q : Nat × va_E), (zwl G h)[k]? = some q → k < 102 ∧ q.1 = zad G k := by
    intro k q hq
    obtain ⟨d, h1, h2⟩ := wlF_inv (zca G) (zad G) h tab 0 k q hq
    rw [Nat.zero_add] at h2
    have := (List.getElem?_eq_some_iff.mp h1).1
    rw [tab_len] at this
    exact ⟨this, by rw [h2]⟩
  refine ⟨fun i j p q hp hq he => ?_, fun k q hq => ?_⟩
  · obtain ⟨a1, a2⟩ := key i p hp
    obtain ⟨b1, b2⟩ := key j q hq
    exact hI i j a1 b1 (by rw [← a2, ← b2]; exact he)
  · obtain ⟨a1, a2⟩ := key k q hq
    exact ⟨k, a1, a2⟩
theorem zwl_set {G : Ga} {h : Hp} {k i : Nat} {v : Int} {d : Ds} (e : tab[k]? = some d) : (zwl G h).set k (zad G k, cellOf (zca G) (zad G) d (fun j => if j = i then v else h k j)) = zwl G (zwr h k i v) := by
  have := wlF_set (zca G) (zad G) h (fun j => if j = i then v else h k j) tab 0 k d e
  rw [Nat.zero_add] at this
  unfold zwl
  rw [this]
  congr 1
  funext k' j
  unfold zwr
  by_cases hk : k' = k
  · rw [if_pos hk, if_pos hk]
  · rw [if_neg hk, if_neg hk]
/-- what holds throughout a method's body -/
def zCx (G : Ga) (μ : Mt) (p : Program) (s : State) (m : MethodId) (args : Array Value) (meth : Method) (c : Code) : Prop :=
  p.tables.exec = Jvm.exec ∧ c.code = μ.1 ∧ c.maxLocals = μ.2.1 ∧ meth.sig.returnType = μ.2.2.1 ∧ meth.locks = false ∧ s.vm.findClass μ.2.2.2.1 = some m.cls ∧ (∀ w ∈ gT, w.before args s = true) ∧ zK G s ∧ zInj G ∧ zXS G ∧ zX G s
def zLH (ad : Nat → Nat) (lsA : Array Slot) (nL : Nat) (ls : Lo) : Prop := ∃ l, lv_has lsA nL l ∧ ∀ (j : Nat) (w : Sv), ls[j]? = some (some w) → (j, dn ad w) ∈ l
def zrv (G : Ga) (rt : Option FieldType) (r : Int) : Option Value := match rt with
  | none => none
  | some .long => some (.long (Int64.ofInt r))
  | some (.object _) => some (.ref (zad G r.toNat))
  | some _ => some (.int (Int32.ofInt r))
def zQ (G : Ga) (rt : Option FieldType) (Q : Int → Hp → Prop) : Array Value → State → Outcome → State → Prop := fun _ st oc t =>
  (∃ (r : Int) (h' : Hp), oc = .returned (zrv G rt r) ∧ Q r h' ∧ zP G h' t.heap) ∧ va_F (zA G) st t
def zV (G : Ga) (μ : Mt) (Q : Int → Hp → Prop) (pc : Nat) (ls : Lo) (st : List Sv) (h : Hp) : Prop :=
  ∀ (p : Program) (e : Env) (s : State) (m : MethodId) (args : Array Value) (below : List Frame) (meth : Method) (c : Code) (H : Heap) (locs : List Loc) (lsA : Array Slot),
    zCx G μ p s m args meth c → zP G h H → va_S (zA G) s.heap H locs → zLH (zad G) lsA μ.2.1 ls →
    W p G.1 e μ.2.2.2.2 s m args below meth c H locs 0 0 (MQ below (zQ G μ.2.2.1 Q) args s 0 0 (zA G)) (F0 m pc lsA (st.map (dn (zad G))))
theorem zLH.at {ad : Nat → Nat} {lsA : Array Slot} {nL : Nat} {ls : Lo} (h : zLH ad lsA nL ls) {j : Nat} {w : Sv} (e : ls[j]? = some (some w)) : lsA[j]? = some (.val (dn ad w)) := by
  obtain ⟨l, h1, h2⟩ := h
  exact h1.2.2 _ (h2 j w e)
theorem zLH.size {ad : Nat → Nat} {lsA : Array Slot} {nL : Nat} {ls : Lo} (h : zLH ad lsA nL ls) : lsA.size = nL := by
  obtain ⟨l, h1, h2⟩ := h
  exact h1.1
/-- a store of one slot -/
def stl : Lo → Nat → Sv → Lo
  | [], _, _ => []
  | _ :: t, 0, v => some v :: t
  | x :: t, 1, v => (match x with | some (.inr (.inl _)) => none | y => y) :: stl t 0 v
  | x :: t, n + 2, v => x :: stl t (n + 1) v
def clr : Lo → Nat → Lo
  | [], _ => []
  | _ :: t, 0 => none :: t
  | x :: t, n + 1 => x :: clr t n
def stl2 (ls : Lo) (i : Nat) (v : Sv) : Lo := clr (stl ls i v) (i + 1)
theorem clr_get : ∀ (ls : Lo) (i j : Nat) (w : Sv), (clr ls i)[j]? = some (some w) → j ≠ i ∧ ls[j]? = some (some w)
  | [], i, j, w, h => by simp [clr] at h
  | x :: t, 0, 0, w, h => by simp [clr] at h
  | x :: t, 0, j + 1, w, h => ⟨by omega, by simpa [clr] using h⟩
  | x :: t, i + 1, 0, w, h => ⟨by omega, by simpa [clr] using h⟩
  | x :: t, i + 1, j + 1, w, h => by
    obtain ⟨a, b⟩ := clr_get t i j w (by simpa [clr] using h)
    exact ⟨by omega, by simpa using b⟩
theorem stl_get : ∀ (ls : Lo) (i : Nat) (v : Sv) (j : Nat) (w : Sv), (stl ls i v)[j]? = some (some w) → (j = i ∧ w = v) ∨ (j ≠ i ∧ ls[j]? = some (some w) ∧ ¬ (j + 1 = i ∧ ∃ a, w = .inr (.inl a)))
  | [], i, v, j, w, h => by simp [stl] at h
  | x :: t, 0, v, 0, w, h => by simp [stl] at h; exact Or.inl ⟨rfl, h.symm⟩
  | x :: t, 0, v, j + 1, w, h => by
    refine Or.inr ⟨by omega, by simpa [stl] using h, fun q => by omega⟩
  | x :: t, 1, v, 0, w, h => by
    refine Or.inr ⟨by omega, ?_, ?_⟩
    · simp only [stl, List.getElem?_cons_zero] at h
      split at h
      · cases h
      · simpa using h
    · rintro ⟨-, a, rfl⟩
      simp only [stl, List.getElem?_cons_zero] at h
      split at h
      · cases h
      · rename_i q
        exact q a (Option.some.inj h)
  | x :: t, 1, v, j + 1, w, h => by
    have h' : (stl t 0 v)[j]? = some (some w) := by simpa [stl] using h
    rcases stl_get t 0 v j w h' with ⟨a, b⟩ | ⟨a, b, c⟩
    · exact Or.inl ⟨by omega, b⟩
    · exact Or.inr ⟨by omega, by simpa using b, fun q => by omega⟩
  | x :: t, n + 2, v, 0, w, h => by
    exact Or.inr ⟨by omega, by simpa [stl] using h, fun q => by omega⟩
  | x :: t, n + 2, v, j + 1, w, h => by
    have h' : (stl t (n + 1) v)[j]? = some (some w) := by simpa [stl] using h
    rcases stl_get t (n + 1) v j w h' with ⟨a, b⟩ | ⟨a, b, c⟩
    · exact Or.inl ⟨by omega, b⟩
    · exact Or.inr ⟨by omega, by simpa using b, fun q => c ⟨by omega, q.2⟩⟩
theorem stl2_get (ls : Lo) (i : Nat) (v : Sv) (j : Nat) (w : Sv) (h : (stl2 ls i v)[j]? = some (some w)) : (j = i ∧ w = v) ∨ (j ≠ i ∧ j ≠ i + 1 ∧ ls[j]? = some (some w) ∧ ¬ (j + 1 = i ∧ ∃ a, w = .inr (.inl a))) := by
  obtain ⟨h1, h2⟩ := clr_get _ _ _ _ h
  rcases stl_get ls i v j w h2 with a | ⟨a, b, c⟩
  · exact Or.inl a
  · exact Or.inr ⟨a, h1, b, c⟩
theorem dn_cat2 {ad : Nat → Nat} {w : Sv} (h : (dn ad w).category = 2) : ∃ a, w = .inr (.inl a) := by
  match w with
  | .inl a => cases h
  | .inr (.inl a) => exact ⟨a, rfl⟩
  | .inr (.inr k) => cases h
theorem zLH.set1 {ad : Nat → Nat} {lsA : Array Slot} {nL : Nat} {ls : Lo} {i : Nat} {v : Sv} (h : zLH ad lsA nL ls) (hi : i < nL) (hc : (dn ad v).category = 1) : ∃ l, lv_has lsA nL l ∧ ∀ lsB : Array Slot, lv_has lsB nL ((i, dn ad v) :: l.filter (fun q => !(q.1 == i) && !(q.1 + 1 == i && q.2.category == 2))) → zLH ad lsB nL (stl ls i v) := by
  obtain ⟨l, h1, h2⟩ := h
  refine ⟨l, h1, fun lsB hB => ⟨_, hB, fun j w hj => ?_⟩⟩
  rcases stl_get ls i v j w hj with ⟨rfl, rfl⟩ | ⟨a, b, c⟩
  · exact List.mem_cons_self
  · refine List.mem_cons_of_mem _ (List.mem_filter.mpr ⟨h2 j w b, ?_⟩)
    have e1 : (j == i) = false := by simp [a]
    simp only [e1, Bool.not_false, Bool.true_and, Bool.not_eq_true', Bool.and_eq_false_iff]
    by_cases hj2 : j + 1 = i
    · right
      have : ¬ (dn ad w).category = 2 := fun q => c ⟨hj2, dn_cat2 q⟩
      simp [this]
    · left
      simp [hj2]
theorem zLH.set2 {ad : Nat → Nat} {lsA : Array Slot} {nL : Nat} {ls : Lo} {i : Nat} {v : Sv} (h : zLH ad lsA nL ls) : ∃ l, lv_has lsA nL l ∧ ∀ lsB : Array Slot, lv_has lsB nL ((i, dn ad v) :: l.filter (fun q => !(q.1 == i) && (!(q.1 == i + 1) && !(q.1 + 1 == i && q.2.category == 2)))) → zLH ad lsB nL (stl2 ls i v) := by
  obtain ⟨l, h1, h2⟩ := h
  refine ⟨l, h1, fun lsB hB => ⟨_, hB, fun j w hj => ?_⟩⟩
  rcases stl2_get ls i v j w hj with ⟨rfl, rfl⟩ | ⟨a, a2, b, c⟩
  · exact List.mem_cons_self
  · refine List.mem_cons_of_mem _ (List.mem_filter.mpr ⟨h2 j w b, ?_⟩)
    have e1 : (j == i) = false := by simp [a]
    have e2 : (j == i + 1) = false := by simp [a2]
    simp only [e1, e2, Bool.not_false, Bool.true_and, Bool.not_eq_true', Bool.and_eq_false_iff]
    by_cases hj2 : j + 1 = i
    · right
      have : ¬ (dn ad w).category = 2 := fun q => c ⟨hj2, dn_cat2 q⟩
      simp [this]
    · left
      simp [hj2]
end
section
/-! one instruction each -/
def rng (a : Int) : Prop := -2147483648 ≤ a ∧ a ≤ 2147483647
theorem ti32 {a : Int} (h : rng a) : (Int32.ofInt a).toInt = a := by
  obtain ⟨h1, h2⟩ := h
  exact Int32.toInt_ofInt_of_le (by simpa using h1) (by omega)
theorem rg32 (x : Int32) : rng x.toInt := ⟨Int32.le_toInt x, by have := Int32.toInt_lt x; omega⟩
theorem le32 {a b : Int} (ha : rng a) (hb : rng b) : Int32.ofInt a ≤ Int32.ofInt b ↔ a ≤ b := by rw [Int32.le_iff_toInt_le, ti32 ha, ti32 hb]
theorem lt32 {a b : Int} (ha : rng a) (hb : rng b) : Int32.ofInt a < Int32.ofInt b ↔ a < b := by rw [Int32.lt_iff_toInt_lt, ti32 ha, ti32 hb]
theorem eq32 {a b : Int} (ha : rng a) (hb : rng b) : Int32.ofInt a = Int32.ofInt b ↔ a = b := by
  rw [← Int32.toInt_inj, ti32 ha, ti32 hb]
theorem zr0 : rng 0 := ⟨by decide, by decide⟩
theorem oz32 : Int32.ofInt 0 = 0 := rfl
section Steps
variable {G : Ga} {μ : Mt} {Q : Int → Hp → Prop} {pc : Nat} {ls : Lo} {st : List Sv} {h : Hp}
theorem zV_anyI {a : Int} (kk : ∀ v : Int, rng v → zV G μ Q pc ls (.inl v :: st) h) : zV G μ Q pc ls (.inl a :: st) h := by
  intro p e s m args below meth c H locs lsA C hP hS hL
  have := kk (Int32.ofInt a).toInt (rg32 _) p e s m args below meth c H locs lsA C hP hS hL
  have e0 : dn (zad G) (.inl (Int32.ofInt a).toInt) = dn (zad G) (.inl a) := by simp only [dn]; rw [Int32.ofInt_toInt]
  rw [List.map_cons, e0] at this
  exact this
theorem zV_iconst {n : Int} (hd : decode μ.1 pc = .ok (.iconst n, 1)) (kk : zV G μ Q (pc + 1) ls (.inl n :: st) h) : zV G μ Q pc ls st h := by
  intro p e s m args below meth c H locs lsA C hP hS hL
  exact lv_iconst C.1 C.2.1 hd rfl (kk p e s m args below meth c H locs lsA C hP hS hL)
theorem zV_bipush {n : Int} (hd : decode μ.1 pc = .ok (.bipush n, 2)) (hn : (Int8.ofInt n).toInt32 = Int32.ofInt n) (kk : zV G μ Q (pc + 2) ls (.inl n :: st) h) : zV G μ Q pc ls st h := by
  intro p e s m args below meth c H locs lsA C hP hS hL
  exact lv_bipush C.1 C.2.1 hd hn (kk p e s m args below meth c H locs lsA C hP hS hL)
theorem zV_sipush {n : Int} (hd : decode μ.1 pc = .ok (.sipush n, 3)) (hn : (Int16.ofInt n).toInt32 = Int32.ofInt n) (kk : zV G μ Q (pc + 3) ls (.inl n :: st) h) : zV G μ Q pc ls st h := by
  intro p e s m args below meth c H locs lsA C hP hS hL
  exact lv_sipush C.1 C.2.1 hd hn (kk p e s m args below meth c H locs lsA C hP hS hL)
theorem zV_lconst {n : Fin 2} (hd : decode μ.1 pc = .ok (.lconst n, 1)) (kk : zV G μ Q (pc + 1) ls (.inr (.inl (n : Nat)) :: st) h) : zV G μ Q pc ls st h := by
  intro p e s m args below meth c H locs lsA C hP hS hL
  refine lv_lconst C.1 C.2.1 hd ?_ (kk p e s m args below meth c H locs lsA C hP hS hL)
  match n with
  | 0 => rfl
  | 1 => rfl
theorem zV_iload_n {k : Fin 4} {a : Int} (hd : decode μ.1 pc = .ok (.iload_n k, 1)) (hl : ls[(k : Nat)]? = some (some (.inl a))) (kk : zV G μ Q (pc + 1) ls (.inl a :: st) h) : zV G μ Q pc ls st h := by
  intro p e s m args below meth c H locs lsA C hP hS hL
  exact lv_iload_n C.1 C.2.1 hd rfl (hL.at hl) (kk p e s m args below meth c H locs lsA C hP hS hL)
theorem zV_iload {k : Nat} {a : Int} (hd : decode μ.1 pc = .ok (.iload k, 2)) (hl : ls[k]? = some (some (.inl a))) (kk : zV G μ Q (pc + 2) ls (.inl a :: st) h) : zV G μ Q pc ls st h := by
  intro p e s m args below meth c H locs lsA C hP hS hL
  exact lv_iload C.1 C.2.1 hd (hL.at hl) (kk p e s m args below meth c H locs lsA C hP hS hL)
theorem zV_aload_n {k : Fin 4} {a : Nat} (hd : decode μ.1 pc = .ok (.aload_n k, 1)) (hl : ls[(k : Nat)]? = some (some (.inr (.inr a)))) (kk : zV G μ Q (pc + 1) ls (.inr (.inr a) :: st) h) : zV G μ Q pc ls st h := by
  intro p e s m args below meth c H locs lsA C hP hS hL
  exact lv_aload_n C.1 C.2.1 hd rfl (hL.at hl) (kk p e s m args below meth c H locs lsA C hP hS hL)
theorem zV_aload {k : Nat} {a : Nat} (hd : decode μ.1 pc = .ok (.aload k, 2)) (hl : ls[k]? = some (some (.inr (.inr a)))) (kk : zV G μ Q (pc + 2) ls (.inr (.inr a) :: st) h) : zV G μ Q pc ls st h := by
  intro p e s m args below meth c H locs lsA C hP hS hL
  exact lv_aload C.1 C.2.1 hd (hL.at hl) (kk p e s m args below meth c H locs lsA C hP hS hL)
theorem zV_lload_n {k : Fin 4} {a : Int} (hd : decode μ.1 pc = .ok (.lload_n k, 1)) (hl : ls[(k : Nat)]? = some (some (.inr (.inl a)))) (kk : zV G μ Q (pc + 1) ls (.inr (.inl a) :: st) h) : zV G μ Q pc ls st h := by
  intro p e s m args below meth c H locs lsA C hP hS hL
  exact lv_lload_n C.1 C.2.1 hd rfl (hL.at hl) (kk p e s m args below meth c H locs lsA C hP hS hL)
theorem zV_lload {k : Nat} {a : Int} (hd : decode μ.1 pc = .ok (.lload k, 2)) (hl : ls[k]? = some (some (.inr (.inl a)))) (kk : zV G μ Q (pc + 2) ls (.inr (.inl a) :: st) h) : zV G μ Q pc ls st h := by
  intro p e s m args below meth c H locs lsA C hP hS hL
  exact lv_lload C.1 C.2.1 hd (hL.at hl) (kk p e s m args below meth c H locs lsA C hP hS hL)
theorem zV_istore_n {k : Fin 4} {a : Int} (hd : decode μ.1 pc = .ok (.istore_n k, 1)) (hn : (k : Nat) < μ.2.1) (kk : zV G μ Q (pc + 1) (stl ls k (.inl a)) st h) : zV G μ Q pc ls (.inl a :: st) h := by
  intro p e s m args below meth c H locs lsA C hP hS hL
  obtain ⟨l, h1, h2⟩ := hL.set1 (i := k) (v := .inl a) hn rfl
  exact lv_istore_n C.1 C.2.1 hd rfl h1 hn rfl (fun lsB hB => kk p e s m args below meth c H locs lsB C hP hS (h2 lsB hB))
theorem zV_istore {k : Nat} {a : Int} (hd : decode μ.1 pc = .ok (.istore k, 2)) (hn : k < μ.2.1) (kk : zV G μ Q (pc + 2) (stl ls k (.inl a)) st h) : zV G μ Q pc ls (.inl a :: st) h := by
  intro p e s m args below meth c H locs lsA C hP hS hL
  obtain ⟨l, h1, h2⟩ := hL.set1 (i := k) (v := .inl a) hn rfl
  exact lv_istore C.1 C.2.1 hd h1 hn rfl (fun lsB hB => kk p e s m args below meth c H locs lsB C hP hS (h2 lsB hB))
theorem zV_astore_n {k : Fin 4} {a : Nat} (hd : decode μ.1 pc = .ok (.astore_n k, 1)) (hn : (k : Nat) < μ.2.1) (kk : zV G μ Q (pc + 1) (stl ls k (.inr (.inr a))) st h) : zV G μ Q pc ls (.inr (.inr a) :: st) h := by
  intro p e s m args below meth c H locs lsA C hP hS hL
  obtain ⟨l, h1, h2⟩ := hL.set1 (i := k) (v := .inr (.inr a)) hn rfl
  exact lv_astore_n C.1 C.2.1 hd rfl h1 hn rfl (fun lsB hB => kk p e s m args below meth c H locs lsB C hP hS (h2 lsB hB))
theorem zV_astore {k : Nat} {a : Nat} (hd : decode μ.1 pc = .ok (.astore k, 2)) (hn : k < μ.2.1) (kk : zV G μ Q (pc + 2) (stl ls k (.inr (.inr a))) st h) : zV G μ Q pc ls (.inr (.inr a) :: st) h := by
  intro p e s m args below meth c H locs lsA C hP hS hL
  obtain ⟨l, h1, h2⟩ := hL.set1 (i := k) (v := .inr (.inr a)) hn rfl
  exact lv_astore C.1 C.2.1 hd h1 hn rfl (fun lsB hB => kk p e s m args below meth c H locs lsB C hP hS (h2 lsB hB))
theorem zV_lstore_n {k : Fin 4} {a : Int} (hd : decode μ.1 pc = .ok (.lstore_n k, 1)) (hn : (k : Nat) + 1 < μ.2.1) (kk : zV G μ Q (pc + 1) (stl2 ls k (.inr (.inl a))) st h) : zV G μ Q pc ls (.inr (.inl a) :: st) h := by
  intro p e s m args below meth c H locs lsA C hP hS hL
  obtain ⟨l, h1, h2⟩ := hL.set2 (i := k) (v := .inr (.inl a))
  exact lv_lstore_n C.1 C.2.1 hd rfl h1 hn rfl (fun lsB hB => kk p e s m args below meth c H locs lsB C hP hS (h2 lsB hB))
theorem zV_lstore {k : Nat} {a : Int} (hd : decode μ.1 pc = .ok (.lstore k, 2)) (hn : k + 1 < μ.2.1) (kk : zV G μ Q (pc + 2) (stl2 ls k (.inr (.inl a))) st h) : zV G μ Q pc ls (.inr (.inl a) :: st) h := by
  intro p e s m args below meth c H locs lsA C hP hS hL
  obtain ⟨l, h1, h2⟩ := hL.set2 (i := k) (v := .inr (.inl a))
  exact lv_lstore C.1 C.2.1 hd h1 hn rfl (fun lsB hB => kk p e s m args below meth c H locs lsB C hP hS (h2 lsB hB))
theorem zV_iinc {k : Nat} {n a : Int} (hd : decode μ.1 pc = .ok (.iinc k n, 3)) (hl : ls[k]? = some (some (.inl a))) (hn : k < μ.2.1) (kk : zV G μ Q (pc + 3) (stl ls k (.inl (a + n))) st h) : zV G μ Q pc ls st h := by
  intro p e s m args below meth c H locs lsA C hP hS hL
  obtain ⟨l, h1, h2⟩ := hL.set1 (i := k) (v := .inl (a + n)) hn rfl
  have hg := hL.at hl
  have ha : Int32.ofInt a + Int32.ofInt n = Int32.ofInt (a + n) := (Int32.ofInt_add a n).symm
  obtain ⟨lsB, e', h'⟩ := lv_store1 (v := .int (Int32.ofInt a + Int32.ofInt n)) h1 hn rfl
  intro T hT X
  obtain ⟨t, z1, z2⟩ := kk p e s m args below meth c H locs lsB C hP hS (h2 lsB (by rw [ha] at h'; exact h')) T hT X
  refine ⟨t, ?_, z2⟩
  have hx := C.1
  have hb := C.2.1
  have hg : lsA[k]? = some (.val (.int (Int32.ofInt a))) := hg
  jvm_step X.here [X.here.top, ↓top_set X.here.top, hx, hb, hd, hg, e']
  exact z1
theorem zV_iadd {a b : Int} (hd : decode μ.1 pc = .ok (.iadd, 1)) (kk : zV G μ Q (pc + 1) ls (.inl (a + b) :: st) h) : zV G μ Q pc ls (.inl b :: .inl a :: st) h := by
  intro p e s m args below meth c H locs lsA C hP hS hL
  refine lv_iadd C.1 C.2.1 hd ?_
  rw [← Int32.ofInt_add]
  exact kk p e s m args below meth c H locs lsA C hP hS hL
theorem zV_isub {a b : Int} (hd : decode μ.1 pc = .ok (.isub, 1)) (kk : zV G μ Q (pc + 1) ls (.inl (a - b) :: st) h) : zV G μ Q pc ls (.inl b :: .inl a :: st) h := by
  intro p e s m args below meth c H locs lsA C hP hS hL
  refine lv_isub C.1 C.2.1 hd ?_
  rw [← Int32.ofInt_sub]
  exact kk p e s m args below meth c H locs lsA C hP hS hL
theorem zV_imul {a b : Int} (hd : decode μ.1 pc = .ok (.imul, 1)) (kk : zV G μ Q (pc + 1) ls (.inl (a * b) :: st) h) : zV G μ Q pc ls (.inl b :: .inl a :: st) h := by
  intro p e s m args below meth c H locs lsA C hP hS hL
  refine lv_imul C.1 C.2.1 hd ?_
  rw [← Int32.ofInt_mul]
  exact kk p e s m args below meth c H locs lsA C hP hS hL
theorem zV_ineg {a : Int} (hd : decode μ.1 pc = .ok (.ineg, 1)) (kk : zV G μ Q (pc + 1) ls (.inl (-a) :: st) h) : zV G μ Q pc ls (.inl a :: st) h := by
  intro p e s m args below meth c H locs lsA C hP hS hL
  refine lv_ineg C.1 C.2.1 hd ?_
  rw [← Int32.ofInt_neg]
  exact kk p e s m args below meth c H locs lsA C hP hS hL
theorem zV_ladd {a b : Int} (hd : decode μ.1 pc = .ok (.ladd, 1)) (kk : zV G μ Q (pc + 1) ls (.inr (.inl (a + b)) :: st) h) : zV G μ Q pc ls (.inr (.inl b) :: .inr (.inl a) :: st) h := by
  intro p e s m args below meth c H locs lsA C hP hS hL
  refine lv_ladd C.1 C.2.1 hd ?_
  rw [← Int64.ofInt_add]
  exact kk p e s m args below meth c H locs lsA C hP hS hL
theorem zV_lmul {a b : Int} (hd : decode μ.1 pc = .ok (.lmul, 1)) (kk : zV G μ Q (pc + 1) ls (.inr (.inl (a * b)) :: st) h) : zV G μ Q pc ls (.inr (.inl b) :: .inr (.inl a) :: st) h := by
  intro p e s m args below meth c H locs lsA C hP hS hL
  refine lv_lmul C.1 C.2.1 hd ?_
  rw [← Int64.ofInt_mul]
  exact kk p e s m args below meth c H locs lsA C hP hS hL
theorem zV_dup {v : Sv} (hd : decode μ.1 pc = .ok (.dup, 1)) (hv : (dn (zad G) v).category = 1) (kk : zV G μ Q (pc + 1) ls (v :: v :: st) h) : zV G μ Q pc ls (v :: st) h := by
  intro p e s m args below meth c H locs lsA C hP hS hL
  exact lv_dup C.1 C.2.1 hd hv (kk p e s m args below meth c H locs lsA C hP hS hL)
theorem zV_pop {v : Sv} (hd : decode μ.1 pc = .ok (.pop, 1)) (hv : (dn (zad G) v).category = 1) (kk : zV G μ Q (pc + 1) ls st h) : zV G μ Q pc ls (v :: st) h := by
  intro p e s m args below meth c H locs lsA C hP hS hL
  exact lv_pop C.1 C.2.1 hd hv (kk p e s m args below meth c H locs lsA C hP hS hL)
theorem zV_goto {off : Int} (tgt : Nat) (hd : decode μ.1 pc = .ok (.goto off, 3)) (ht : (pc : Int) + off = (tgt : Int)) (kk : zV G μ Q tgt ls st h) : zV G μ Q pc ls st h := by
  intro p e s m args below meth c H locs lsA C hP hS hL
  exact lv_goto C.1 C.2.1 hd ht (kk p e s m args below meth c H locs lsA C hP hS hL)
/-- a result that is some int -/
theorem zV_any32 {x : Int32} {p : Program} {e : Env} {s : State} {m : MethodId} {args : Array Value} {below : List Frame} {meth : Method} {c : Code} {H : Heap} {locs : List Loc} {lsA : Array Slot} (C : zCx G μ p s m args meth c) (hP : zP G h H) (hS : va_S (zA G) s.heap H locs) (hL : zLH (zad G) lsA μ.2.1 ls) (kk : zV G μ Q pc ls (.inl x.toInt :: st) h) :
    W p G.1 e μ.2.2.2.2 s m args below meth c H locs 0 0 (MQ below (zQ G μ.2.2.1 Q) args s 0 0 (zA G)) (F0 m pc lsA (.int x :: st.map (dn (zad G)))) := by
  have := kk p e s m args below meth c H locs lsA C hP hS hL
  simpa [dn, Int32.ofInt_toInt] using this
theorem zV_any64 {x : Int64} {p : Program} {e : Env} {s : State} {m : MethodId} {args : Array Value} {below : List Frame} {meth : Method} {c : Code} {H : Heap} {locs : List Loc} {lsA : Array Slot} (C : zCx G μ p s m args meth c) (hP : zP G h H) (hS : va_S (zA G) s.heap H locs) (hL : zLH (zad G) lsA μ.2.1 ls) (kk : zV G μ Q pc ls (.inr (.inl x.toInt) :: st) h) :
    W p G.1 e μ.2.2.2.2 s m args below meth c H locs 0 0 (MQ below (zQ G μ.2.2.1 Q) args s 0 0 (zA G)) (F0 m pc lsA (.long x :: st.map (dn (zad G)))) := by
  have := kk p e s m args below meth c H locs lsA C hP hS hL
  simpa [dn, Int64.ofInt_toInt] using this
theorem zV_i2l {a : Int} (hd : decode μ.1 pc = .ok (.i2l, 1)) (kk : ∀ v : Int, zV G μ Q (pc + 1) ls (.inr (.inl v) :: st) h) : zV G μ Q pc ls (.inl a :: st) h := by
  intro p e s m args below meth c H locs lsA C hP hS hL
  exact lv_i2l C.1 C.2.1 hd rfl (zV_any64 C hP hS hL (kk _))
theorem zV_i2c {a : Int} (hd : decode μ.1 pc = .ok (.i2c, 1)) (kk : ∀ v : Int, rng v → zV G μ Q (pc + 1) ls (.inl v :: st) h) : zV G μ Q pc ls (.inl a :: st) h := by
  intro p e s m args below meth c H locs lsA C hP hS hL
  exact lv_i2c C.1 C.2.1 hd rfl (zV_any32 C hP hS hL (kk _ (rg32 _)))
theorem zV_lor {a b : Int} (hd : decode μ.1 pc = .ok (.lor, 1)) (kk : ∀ v : Int, zV G μ Q (pc + 1) ls (.inr (.inl v) :: st) h) : zV G μ Q pc ls (.inr (.inl b) :: .inr (.inl a) :: st) h := by
  intro p e s m args below meth c H locs lsA C hP hS hL
  exact lv_lor C.1 C.2.1 hd (zV_any64 C hP hS hL (kk _))
theorem zV_lshl {a b : Int} (hd : decode μ.1 pc = .ok (.lshl, 1)) (kk : ∀ v : Int, zV G μ Q (pc + 1) ls (.inr (.inl v) :: st) h) : zV G μ Q pc ls (.inl b :: .inr (.inl a) :: st) h := by
  intro p e s m args below meth c H locs lsA C hP hS hL
  exact lv_lshl C.1 C.2.1 hd rfl (zV_any64 C hP hS hL (kk _))
theorem zV_iushr {a b : Int} (hd : decode μ.1 pc = .ok (.iushr, 1)) (kk : ∀ v : Int, rng v → zV G μ Q (pc + 1) ls (.inl v :: st) h) : zV G μ Q pc ls (.inl b :: .inl a :: st) h := by
  intro p e s m args below meth c H locs lsA C hP hS hL
  exact lv_iushr C.1 C.2.1 hd rfl (zV_any32 C hP hS hL (kk _ (rg32 _)))
theorem zV_ishrQ {a b : Int} (hd : decode μ.1 pc = .ok (.ishr, 1)) (kk : ∀ v : Int, rng v → zV G μ Q (pc + 1) ls (.inl v :: st) h) : zV G μ Q pc ls (.inl b :: .inl a :: st) h := by
  intro p e s m args below meth c H locs lsA C hP hS hL
  exact lv_ishr C.1 C.2.1 hd (zV_any32 C hP hS hL (kk _ (rg32 _)))
theorem zV_ishlQ {a b : Int} (hd : decode μ.1 pc = .ok (.ishl, 1)) (kk : ∀ v : Int, rng v → zV G μ Q (pc + 1) ls (.inl v :: st) h) : zV G μ Q pc ls (.inl b :: .inl a :: st) h := by
  intro p e s m args below meth c H locs lsA C hP hS hL
  exact lv_ishl C.1 C.2.1 hd (zV_any32 C hP hS hL (kk _ (rg32 _)))
theorem zV_iandQ {a b : Int} (hd : decode μ.1 pc = .ok (.iand, 1)) (kk : ∀ v : Int, rng v → zV G μ Q (pc + 1) ls (.inl v :: st) h) : zV G μ Q pc ls (.inl b :: .inl a :: st) h := by
  intro p e s m args below meth c H locs lsA C hP hS hL
  exact lv_iand C.1 C.2.1 hd (zV_any32 C hP hS hL (kk _ (rg32 _)))
theorem nz32 {b : Int} (hb : rng b) (h0 : b ≠ 0) : ¬ Int32.ofInt b = 0 := fun q => h0 ((eq32 hb zr0).mp (q.trans oz32.symm))
theorem zV_idivQ {a b : Int} (hb : rng b) (h0 : b ≠ 0) (hd : decode μ.1 pc = .ok (.idiv, 1)) (kk : ∀ v : Int, rng v → zV G μ Q (pc + 1) ls (.inl v :: st) h) : zV G μ Q pc ls (.inl b :: .inl a :: st) h := by
  intro p e s m args below meth c H locs lsA C hP hS hL
  exact lv_idiv C.1 C.2.1 hd (nz32 hb h0) (zV_any32 C hP hS hL (kk _ (rg32 _)))
theorem zV_iremQ {a b : Int} (hb : rng b) (h0 : b ≠ 0) (hd : decode μ.1 pc = .ok (.irem, 1)) (kk : ∀ v : Int, rng v → zV G μ Q (pc + 1) ls (.inl v :: st) h) : zV G μ Q pc ls (.inl b :: .inl a :: st) h := by
  intro p e s m args below meth c H locs lsA C hP hS hL
  exact lv_irem C.1 C.2.1 hd (nz32 hb h0) (zV_any32 C hP hS hL (kk _ (rg32 _)))
theorem div32 {a b : Int} (ha : rng a) (hb : rng b) (h1 : 0 ≤ a) (h2 : 0 < b) : Int32.ofInt a / Int32.ofInt b = Int32.ofInt (a / b) := by
  obtain ⟨n, rfl⟩ := Int.eq_ofNat_of_zero_le h1
  obtain ⟨d, rfl⟩ := Int.eq_ofNat_of_zero_le (Int.le_of_lt h2)
  have e1 : ∀ x : Nat, Int32.ofInt (x : Int) = nI x := fun x => rfl
  have ha2 := ha.2
  have hb2 := hb.2
  rw [e1, e1, pk_div (by omega) (by omega) (by omega)]
  have : ((n : Int) / (d : Int)) = ((n / d : Nat) : Int) := rfl
  rw [this, e1]
theorem rem32 {a b : Int} (ha : rng a) (hb : rng b) (h1 : 0 ≤ a) (h2 : 0 < b) : Int32.ofInt a - Int32.ofInt a / Int32.ofInt b * Int32.ofInt b = Int32.ofInt (a % b) := by
  rw [div32 ha hb h1 h2, ← Int32.ofInt_mul, ← Int32.ofInt_sub]
  congr 1
  have := Int.emod_def a b
  rw [this, Int.mul_comm]
theorem zV_idiv {a b : Int} (ha : 0 ≤ a ∧ a ≤ 2147483647) (hb : 0 < b ∧ b ≤ 2147483647) (hd : decode μ.1 pc = .ok (.idiv, 1)) (kk : zV G μ Q (pc + 1) ls (.inl (a / b) :: st) h) : zV G μ Q pc ls (.inl b :: .inl a :: st) h := by
  intro p e s m args below meth c H locs lsA C hP hS hL
  have ra : rng a := ⟨by omega, ha.2⟩
  have rb : rng b := ⟨by omega, hb.2⟩
  refine lv_idiv C.1 C.2.1 hd (nz32 rb (by omega)) ?_
  rw [div32 ra rb ha.1 hb.1]
  exact kk p e s m args below meth c H locs lsA C hP hS hL
theorem zV_irem {a b : Int} (ha : 0 ≤ a ∧ a ≤ 2147483647) (hb : 0 < b ∧ b ≤ 2147483647) (hd : decode μ.1 pc = .ok (.irem, 1)) (kk : zV G μ Q (pc + 1) ls (.inl (a % b) :: st) h) : zV G μ Q pc ls (.inl b :: .inl a :: st) h := by
  intro p e s m args below meth c H locs lsA C hP hS hL
  have ra : rng a := ⟨by omega, ha.2⟩
  have rb : rng b := ⟨by omega, hb.2⟩
  refine lv_irem C.1 C.2.1 hd (nz32 rb (by omega)) ?_
  rw [rem32 ra rb ha.1 hb.1]
  exact kk p e s m args below meth c H locs lsA C hP hS hL
end Steps
end
section
/-! branches, arrays, fields, answers, calls -/
section Branch
variable {G : Ga} {μ : Mt} {Q : Int → Hp → Prop} {pc pc' tgt : Nat} {ls : Lo} {st : List Sv} {h : Hp}
theorem zV_if_eq {a : Int} {off : Int} (hd : decode μ.1 pc = .ok (.ifCond .eq off, 3)) (ht : (pc : Int) + off = (tgt : Int)) (hn : pc + 3 = pc') (ha : rng a) (kt : a = 0 → zV G μ Q tgt ls st h) (kf : ¬ a = 0 → zV G μ Q pc' ls st h) : zV G μ Q pc ls (.inl a :: st) h := by
  subst hn
  intro p e s m args below meth c H locs lsA C hP hS hL
  exact lv_if_eq C.1 C.2.1 hd ht (fun q => kt ((eq32 ha zr0).mp q) p e s m args below meth c H locs lsA C hP hS hL) (fun q => kf (fun z => q ((eq32 ha zr0).mpr z)) p e s m args below meth c H locs lsA C hP hS hL)
theorem zV_ifQ_eq {a : Int} {off : Int} (hd : decode μ.1 pc = .ok (.ifCond .eq off, 3)) (ht : (pc : Int) + off = (tgt : Int)) (hn : pc + 3 = pc') (kt : zV G μ Q tgt ls st h) (kf : zV G μ Q pc' ls st h) : zV G μ Q pc ls (.inl a :: st) h := by
  subst hn
  intro p e s m args below meth c H locs lsA C hP hS hL
  exact lv_if_eq C.1 C.2.1 hd ht (fun _ => kt p e s m args below meth c H locs lsA C hP hS hL) (fun _ => kf p e s m args below meth c H locs lsA C hP hS hL)
theorem zV_if_ne {a : Int} {off : Int} (hd : decode μ.1 pc = .ok (.ifCond .ne off, 3)) (ht : (pc : Int) + off = (tgt : Int)) (hn : pc + 3 = pc') (ha : rng a) (kt : ¬ a = 0 → zV G μ Q tgt ls st h) (kf : a = 0 → zV G μ Q pc' ls st h) : zV G μ Q pc ls (.inl a :: st) h := by
  subst hn
  intro p e s m args below meth c H locs lsA C hP hS hL
  exact lv_if_ne C.1 C.2.1 hd ht (fun q => kt (fun z => q ((eq32 ha zr0).mpr z)) p e s m args below meth c H locs lsA C hP hS hL) (fun q => kf ((eq32 ha zr0).mp q) p e s m args below meth c H locs lsA C hP hS hL)
theorem zV_ifQ_ne {a : Int} {off : Int} (hd : decode μ.1 pc = .ok (.ifCond .ne off, 3)) (ht : (pc : Int) + off = (tgt : Int)) (hn : pc + 3 = pc') (kt : zV G μ Q tgt ls st h) (kf : zV G μ Q pc' ls st h) : zV G μ Q pc ls (.inl a :: st) h := by
  subst hn
  intro p e s m args below meth c H locs lsA C hP hS hL
  exact lv_if_ne C.1 C.2.1 hd ht (fun _ => kt p e s m args below meth c H locs lsA C hP hS hL) (fun _ => kf p e s m args below meth c H locs lsA C hP hS hL)
theorem zV_if_lt {a : Int} {off : Int} (hd : decode μ.1 pc = .ok (.ifCond .lt off, 3)) (ht : (pc : Int) + off = (tgt : Int)) (hn : pc + 3 = pc') (ha : rng a) (kt : a < 0 → zV G μ Q tgt ls st h) (kf : ¬ a < 0 → zV G μ Q pc' ls st h) : zV G μ Q pc ls (.inl a :: st) h := by
  subst hn
  intro p e s m args below meth c H locs lsA C hP hS hL
  exact lv_if_lt C.1 C.2.1 hd ht (fun q => kt ((lt32 ha zr0).mp q) p e s m args below meth c H locs lsA C hP hS hL) (fun q => kf (fun z => q ((lt32 ha zr0).mpr z)) p e s m args below meth c H locs lsA C hP hS hL)
theorem zV_ifQ_lt {a : Int} {off : Int} (hd : decode μ.1 pc = .ok (.ifCond .lt off, 3)) (ht : (pc : Int) + off = (tgt : Int)) (hn : pc + 3 = pc') (kt : zV G μ Q tgt ls st h) (kf : zV G μ Q pc' ls st h) : zV G μ Q pc ls (.inl a :: st) h := by
  subst hn
  intro p e s m args below meth c H locs lsA C hP hS hL
  exact lv_if_lt C.1 C.2.1 hd ht (fun _ => kt p e s m args below meth c H locs lsA C hP hS hL) (fun _ => kf p e s m args below meth c H locs lsA C hP hS hL)
theorem zV_if_ge {a : Int} {off : Int} (hd : decode μ.1 pc = .ok (.ifCond .ge off, 3)) (ht : (pc : Int) + off = (tgt : Int)) (hn : pc + 3 = pc') (ha : rng a) (kt : 0 ≤ a → zV G μ Q tgt ls st h) (kf : ¬ 0 ≤ a → zV G μ Q pc' ls st h) : zV G μ Q pc ls (.inl a :: st) h := by
  subst hn
  intro p e s m args below meth c H locs lsA C hP hS hL
  exact lv_if_ge C.1 C.2.1 hd ht (fun q => kt ((le32 zr0 ha).mp q) p e s m args below meth c H locs lsA C hP hS hL) (fun q => kf (fun z => q ((le32 zr0 ha).mpr z)) p e s m args below meth c H locs lsA C hP hS hL)
theorem zV_ifQ_ge {a : Int} {off : Int} (hd : decode μ.1 pc = .ok (.ifCond .ge off, 3)) (ht : (pc : Int) + off = (tgt : Int)) (hn : pc + 3 = pc') (kt : zV G μ Q tgt ls st h) (kf : zV G μ Q pc' ls st h) : zV G μ Q pc ls (.inl a :: st) h := by
  subst hn
  intro p e s m args below meth c H locs lsA C hP hS hL
  exact lv_if_ge C.1 C.2.1 hd ht (fun _ => kt p e s m args below meth c H locs lsA C hP hS hL) (fun _ => kf p e s m args below meth c H locs lsA C hP hS hL)
theorem zV_if_gt {a : Int} {off : Int} (hd : decode μ.1 pc = .ok (.ifCond .gt off, 3)) (ht : (pc : Int) + off = (tgt : Int)) (hn : pc + 3 = pc') (ha : rng a) (kt : 0 < a → zV G μ Q tgt ls st h) (kf : ¬ 0 < a → zV G μ Q pc' ls st h) : zV G μ Q pc ls (.inl a :: st) h := by
  subst hn
  intro p e s m args below meth c H locs lsA C hP hS hL
  exact lv_if_gt C.1 C.2.1 hd ht (fun q => kt ((lt32 zr0 ha).mp q) p e s m args below meth c H locs lsA C hP hS hL) (fun q => kf (fun z => q ((lt32 zr0 ha).mpr z)) p e s m args below meth c H locs lsA C hP hS hL)
theorem zV_ifQ_gt {a : Int} {off : Int} (hd : decode μ.1 pc = .ok (.ifCond .gt off, 3)) (ht : (pc : Int) + off = (tgt : Int)) (hn : pc + 3 = pc') (kt : zV G μ Q tgt ls st h) (kf : zV G μ Q pc' ls st h) : zV G μ Q pc ls (.inl a :: st) h := by
  subst hn
  intro p e s m args below meth c H locs lsA C hP hS hL
  exact lv_if_gt C.1 C.2.1 hd ht (fun _ => kt p e s m args below meth c H locs lsA C hP hS hL) (fun _ => kf p e s m args below meth c H locs lsA C hP hS hL)
theorem zV_if_le {a : Int} {off : Int} (hd : decode μ.1 pc = .ok (.ifCond .le off, 3)) (ht : (pc : Int) + off = (tgt : Int)) (hn : pc + 3 = pc') (ha : rng a) (kt : a ≤ 0 → zV G μ Q tgt ls st h) (kf : ¬ a ≤ 0 → zV G μ Q pc' ls st h) : zV G μ Q pc ls (.inl a :: st) h := by
  subst hn
  intro p e s m args below meth c H locs lsA C hP hS hL
  exact lv_if_le C.1 C.2.1 hd ht (fun q => kt ((le32 ha zr0).mp q) p e s m args below meth c H locs lsA C hP hS hL) (fun q => kf (fun z => q ((le32 ha zr0).mpr z)) p e s m args below meth c H locs lsA C hP hS hL)
theorem zV_ifQ_le {a : Int} {off : Int} (hd : decode μ.1 pc = .ok (.ifCond .le off, 3)) (ht : (pc : Int) + off = (tgt : Int)) (hn : pc + 3 = pc') (kt : zV G μ Q tgt ls st h) (kf : zV G μ Q pc' ls st h) : zV G μ Q pc ls (.inl a :: st) h := by
  subst hn
  intro p e s m args below meth c H locs lsA C hP hS hL
  exact lv_if_le C.1 C.2.1 hd ht (fun _ => kt p e s m args below meth c H locs lsA C hP hS hL) (fun _ => kf p e s m args below meth c H locs lsA C hP hS hL)
theorem zV_cm_eq {a b : Int} {off : Int} (hd : decode μ.1 pc = .ok (.if_icmp .eq off, 3)) (ht : (pc : Int) + off = (tgt : Int)) (hn : pc + 3 = pc') (ha : rng a) (hb : rng b) (kt : a = b → zV G μ Q tgt ls st h) (kf : ¬ a = b → zV G μ Q pc' ls st h) : zV G μ Q pc ls (.inl b :: .inl a :: st) h := by
  subst hn
  intro p e s m args below meth c H locs lsA C hP hS hL
  exact lv_icmp_eq C.1 C.2.1 hd ht (fun q => kt ((eq32 ha hb).mp q) p e s m args below meth c H locs lsA C hP hS hL) (fun q => kf (fun z => q ((eq32 ha hb).mpr z)) p e s m args below meth c H locs lsA C hP hS hL)
theorem zV_cmQ_eq {a b : Int} {off : Int} (hd : decode μ.1 pc = .ok (.if_icmp .eq off, 3)) (ht : (pc : Int) + off = (tgt : Int)) (hn : pc + 3 = pc') (kt : zV G μ Q tgt ls st h) (kf : zV G μ Q pc' ls st h) : zV G μ Q pc ls (.inl b :: .inl a :: st) h := by
  subst hn
  intro p e s m args below meth c H locs lsA C hP hS hL
  exact lv_icmp_eq C.1 C.2.1 hd ht (fun _ => kt p e s m args below meth c H locs lsA C hP hS hL) (fun _ => kf p e s m args below meth c H locs lsA C hP hS hL)
theorem zV_cm_ne {a b : Int} {off : Int} (hd : decode μ.1 pc = .ok (.if_icmp .ne off, 3)) (ht : (pc : Int) + off = (tgt : Int)) (hn : pc + 3 = pc') (ha : rng a) (hb : rng b) (kt : ¬ a = b → zV G μ Q tgt ls st h) (kf : a = b → zV G μ Q pc' ls st h) : zV G μ Q pc ls (.inl b :: .inl a :: st) h := by
  subst hn
  intro p e s m args below meth c H locs lsA C hP hS hL
  exact lv_icmp_ne C.1 C.2.1 hd ht (fun q => kt (fun z => q ((eq32 ha hb).mpr z)) p e s m args below meth c H locs lsA C hP hS hL) (fun q => kf ((eq32 ha hb).mp q) p e s m args below meth c H locs lsA C hP hS hL)
theorem zV_cmQ_ne {a b : Int} {off : Int} (hd : decode μ.1 pc = .ok (.if_icmp .ne off, 3)) (ht : (pc : Int) + off = (tgt : Int)) (hn : pc + 3 = pc') (kt : zV G μ Q tgt ls st h) (kf : zV G μ Q pc' ls st h) : zV G μ Q pc ls (.inl b :: .inl a :: st) h := by
  subst hn
  intro p e s m args below meth c H locs lsA C hP hS hL
  exact lv_icmp_ne C.1 C.2.1 hd ht (fun _ => kt p e s m args below meth c H locs lsA C hP hS hL) (fun _ => kf p e s m args below meth c H locs lsA C hP hS hL)
theorem zV_cm_lt {a b : Int} {off : Int} (hd : decode μ.1 pc = .ok (.if_icmp .lt off, 3)) (ht : (pc : Int) + off = (tgt : Int)) (hn : pc + 3 = pc') (ha : rng a) (hb : rng b) (kt : a < b → zV G μ Q tgt ls st h) (kf : ¬ a < b → zV G μ Q pc' ls st h) : zV G μ Q pc ls (.inl b :: .inl a :: st) h := by
  subst hn
  intro p e s m args below meth c H locs lsA C hP hS hL
  exact lv_icmp_lt C.1 C.2.1 hd ht (fun q => kt ((lt32 ha hb).mp q) p e s m args below meth c H locs lsA C hP hS hL) (fun q => kf (fun z => q ((lt32 ha hb).mpr z)) p e s m args below meth c H locs lsA C hP hS hL)
theorem zV_cmQ_lt {a b : Int} {off : Int} (hd : decode μ.1 pc = .ok (.if_icmp .lt off, 3)) (ht : (pc : Int) + off = (tgt : Int)) (hn : pc + 3 = pc') (kt : zV G μ Q tgt ls st h) (kf : zV G μ Q pc' ls st h) : zV G μ Q pc ls (.inl b :: .inl a :: st) h := by
  subst hn
  intro p e s m args below meth c H locs lsA C hP hS hL
  exact lv_icmp_lt C.1 C.2.1 hd ht (fun _ => kt p e s m args below meth c H locs lsA C hP hS hL) (fun _ => kf p e s m args below meth c H locs lsA C hP hS hL)
theorem zV_cm_ge {a b : Int} {off : Int} (hd : decode μ.1 pc = .ok (.if_icmp .ge off, 3)) (ht : (pc : Int) + off = (tgt : Int)) (hn : pc + 3 = pc') (ha : rng a) (hb : rng b) (kt : b ≤ a → zV G μ Q tgt ls st h) (kf : ¬ b ≤ a → zV G μ Q pc' ls st h) : zV G μ Q pc ls (.inl b :: .inl a :: st) h := by
  subst hn
  intro p e s m args below meth c H locs lsA C hP hS hL
  exact lv_icmp_ge C.1 C.2.1 hd ht (fun q => kt ((le32 hb ha).mp q) p e s m args below meth c H locs lsA C hP hS hL) (fun q => kf (fun z => q ((le32 hb ha).mpr z)) p e s m args below meth c H locs lsA C hP hS hL)
theorem zV_cmQ_ge {a b : Int} {off : Int} (hd : decode μ.1 pc = .ok (.if_icmp .ge off, 3)) (ht : (pc : Int) + off = (tgt : Int)) (hn : pc + 3 = pc') (kt : zV G μ Q tgt ls st h) (kf : zV G μ Q pc' ls st h) : zV G μ Q pc ls (.inl b :: .inl a :: st) h := by
  subst hn
  intro p e s m args below meth c H locs lsA C hP hS hL
  exact lv_icmp_ge C.1 C.2.1 hd ht (fun _ => kt p e s m args below meth c H locs lsA C hP hS hL) (fun _ => kf p e s m args below meth c H locs lsA C hP hS hL)
theorem zV_cm_gt {a b : Int} {off : Int} (hd : decode μ.1 pc = .ok (.if_icmp .gt off, 3)) (ht : (pc : Int) + off = (tgt : Int)) (hn : pc + 3 = pc') (ha : rng a) (hb : rng b) (kt : b < a → zV G μ Q tgt ls st h) (kf : ¬ b < a → zV G μ Q pc' ls st h) : zV G μ Q pc ls (.inl b :: .inl a :: st) h := by
  subst hn
  intro p e s m args below meth c H locs lsA C hP hS hL
  exact lv_icmp_gt C.1 C.2.1 hd ht (fun q => kt ((lt32 hb ha).mp q) p e s m args below meth c H locs lsA C hP hS hL) (fun q => kf (fun z => q ((lt32 hb ha).mpr z)) p e s m args below meth c H locs lsA C hP hS hL)
theorem zV_cmQ_gt {a b : Int} {off : Int} (hd : decode μ.1 pc = .ok (.if_icmp .gt off, 3)) (ht : (pc : Int) + off = (tgt : Int)) (hn : pc + 3 = pc') (kt : zV G μ Q tgt ls st h) (kf : zV G μ Q pc' ls st h) : zV G μ Q pc ls (.inl b :: .inl a :: st) h := by
  subst hn
  intro p e s m args below meth c H locs lsA C hP hS hL
  exact lv_icmp_gt C.1 C.2.1 hd ht (fun _ => kt p e s m args below meth c H locs lsA C hP hS hL) (fun _ => kf p e s m args below meth c H locs lsA C hP hS hL)
theorem zV_cm_le {a b : Int} {off : Int} (hd : decode μ.1 pc = .ok (.if_icmp .le off, 3)) (ht : (pc : Int) + off = (tgt : Int)) (hn : pc + 3 = pc') (ha : rng a) (hb : rng b) (kt : a ≤ b → zV G μ Q tgt ls st h) (kf : ¬ a ≤ b → zV G μ Q pc' ls st h) : zV G μ Q pc ls (.inl b :: .inl a :: st) h := by
  subst hn
  intro p e s m args below meth c H locs lsA C hP hS hL
  exact lv_icmp_le C.1 C.2.1 hd ht (fun q => kt ((le32 ha hb).mp q) p e s m args below meth c H locs lsA C hP hS hL) (fun q => kf (fun z => q ((le32 ha hb).mpr z)) p e s m args below meth c H locs lsA C hP hS hL)
theorem zV_cmQ_le {a b : Int} {off : Int} (hd : decode μ.1 pc = .ok (.if_icmp .le off, 3)) (ht : (pc : Int) + off = (tgt : Int)) (hn : pc + 3 = pc') (kt : zV G μ Q tgt ls st h) (kf : zV G μ Q pc' ls st h) : zV G μ Q pc ls (.inl b :: .inl a :: st) h := by
  subst hn
  intro p e s m args below meth c H locs lsA C hP hS hL
  exact lv_icmp_le C.1 C.2.1 hd ht (fun _ => kt p e s m args below meth c H locs lsA C hP hS hL) (fun _ => kf p e s m args below meth c H locs lsA C hP hS hL)
theorem zV_lcmp {a b : Int} (hd : decode μ.1 pc = .ok (.lcmp, 1)) (hn : pc + 1 = pc') (kk : ∀ v : Int, rng v → zV G μ Q pc' ls (.inl v :: st) h) : zV G μ Q pc ls (.inr (.inl b) :: .inr (.inl a) :: st) h := by
  subst hn
  intro p e s m args below meth c H locs lsA C hP hS hL
  exact W.lcmp C.1 C.2.1 hd (zV_any32 C hP hS hL (kk _ (rg32 _)))
theorem vin32 {i : Int} {n : Nat} (hi : 0 ≤ i ∧ i < n) (hn : n < 2147483648) : vp_in (Int32.ofInt i) n := by
  rw [vp_in_iff, ti32 ⟨by omega, by omega⟩]
  exact hi
theorem tn32 {i : Int} (hi : 0 ≤ i ∧ i < 2147483648) : (Int32.ofInt i).toNatClampNeg = i.toNat := by
  have e : Int32.ofInt i = nI i.toNat := by
    show Int32.ofInt i = Int32.ofInt ((i.toNat : Nat) : Int)
    rw [Int.toNat_of_nonneg hi.1]
  rw [e, nI_clamp (by omega)]
theorem zV_iald {k n : Nat} {i : Int} (ht : tab[k]? = some (1, 0, [n])) (hi : 0 ≤ i ∧ i < n) (hd : decode μ.1 pc = .ok (.iaload, 1)) (hs : n < 2147483648) (hn : pc + 1 = pc') (kk : zV G μ Q pc' ls (.inl (h k i.toNat) :: st) h) : zV G μ Q pc ls (.inl i :: .inr (.inr k) :: st) h := by
  subst hn
  intro p e s m args below meth c H locs lsA C hP hS hL
  have e0 := zwl_get (G := G) (h := h) ht
  refine va_iald C.1 C.2.1 C.2.2.2.2.2.2.2.1 hP k 0 e0 rfl (vin32 hi hs) hd ?_
  rw [tn32 ⟨hi.1, by omega⟩]
  exact kk p e s m args below meth c H locs lsA C hP hS hL
theorem zV_bald {k n : Nat} {i : Int} (ht : tab[k]? = some (1, 2, [n])) (hi : 0 ≤ i ∧ i < n) (hd : decode μ.1 pc = .ok (.baload, 1)) (hs : n < 2147483648) (hn : pc + 1 = pc') (kk : zV G μ Q pc' ls (.inl (h k i.toNat) :: st) h) : zV G μ Q pc ls (.inl i :: .inr (.inr k) :: st) h := by
  subst hn
  intro p e s m args below meth c H locs lsA C hP hS hL
  have e0 := zwl_get (G := G) (h := h) ht
  refine va_bald C.1 C.2.1 C.2.2.2.2.2.2.2.1 hP k 2 e0 rfl (vin32 hi hs) hd ?_
  rw [tn32 ⟨hi.1, by omega⟩]
  exact kk p e s m args below meth c H locs lsA C hP hS hL
theorem zV_zald {k n : Nat} {i : Int} (ht : tab[k]? = some (1, 1, [n])) (hi : 0 ≤ i ∧ i < n) (hd : decode μ.1 pc = .ok (.baload, 1)) (hs : n < 2147483648) (hn : pc + 1 = pc') (kk : zV G μ Q pc' ls (.inl (h k i.toNat) :: st) h) : zV G μ Q pc ls (.inl i :: .inr (.inr k) :: st) h := by
  subst hn
  intro p e s m args below meth c H locs lsA C hP hS hL
  have e0 := zwl_get (G := G) (h := h) ht
  refine va_zald C.1 C.2.1 C.2.2.2.2.2.2.2.1 hP k 1 e0 rfl (vin32 hi hs) hd ?_
  rw [tn32 ⟨hi.1, by omega⟩]
  exact kk p e s m args below meth c H locs lsA C hP hS hL
theorem zV_lald {k n : Nat} {i : Int} (ht : tab[k]? = some (2, 3, [n])) (hi : 0 ≤ i ∧ i < n) (hd : decode μ.1 pc = .ok (.laload, 1)) (hs : n < 2147483648) (hn : pc + 1 = pc') (kk : zV G μ Q pc' ls (.inr (.inl (h k i.toNat)) :: st) h) : zV G μ Q pc ls (.inl i :: .inr (.inr k) :: st) h := by
  subst hn
  intro p e s m args below meth c H locs lsA C hP hS hL
  have e0 := zwl_get (G := G) (h := h) ht
  refine va_lald C.1 C.2.1 C.2.2.2.2.2.2.2.1 hP k 3 e0 rfl (vin32 hi hs) hd ?_
  rw [tn32 ⟨hi.1, by omega⟩]
  exact kk p e s m args below meth c H locs lsA C hP hS hL
theorem zV_iast {k n : Nat} {i v : Int} (ht : tab[k]? = some (1, 0, [n])) (hi : 0 ≤ i ∧ i < n) (hd : decode μ.1 pc = .ok (.iastore, 1)) (hs : n < 2147483648) (hn : pc + 1 = pc') (kk : zV G μ Q pc' ls st (zwr h k i.toNat v)) : zV G μ Q pc ls (.inl v :: .inl i :: .inr (.inr k) :: st) h := by
  subst hn
  intro p e s m args below meth c H locs lsA C hP hS hL
  have e0 := zwl_get (G := G) (h := h) ht
  have hD := zwl_D (G := G) (h := h) C.2.2.2.2.2.2.2.2.1
  refine va_iast C.1 C.2.1 C.2.2.2.2.2.2.2.1 hP hD hS k 0 e0 rfl (vin32 hi hs) hd (fun H1 locs1 hP1 _ hS1 => ?_)
  have ew := zwl_set (G := G) (h := h) (i := i.toNat) (v := v) ht
  refine kk p e s m args below meth c H1 locs1 lsA C ?_ hS1 hL
  show va_P _ _ (zwl G (zwr h k i.toNat v)) H1
  rw [← ew]
  rw [tn32 ⟨hi.1, by omega⟩] at hP1
  have ef : cellOf (zca G) (zad G) (1, 0, [n]) (fun j => if j = i.toNat then v else h k j) = .inl (zca G 0, n, .inl (upd (fun j => Int32.ofInt (h k j)) i.toNat (Int32.ofInt v))) := by
    simp only [cellOf]
    congr 4
    funext j
    simp only [upd, vp_updL]
    by_cases hj : j = i.toNat
    · simp [hj]
    · simp [hj]
  rw [ef]
  exact hP1
theorem nrb32 {v : Int} (hv : v = 0 ∨ v = 1) : vp_nar .boolean (Int32.ofInt v) = Int32.ofInt v := by
  rcases hv with rfl | rfl <;> decide
theorem nrB32 {v : Int} (hv : -128 ≤ v ∧ v ≤ 127) : vp_nar .byte (Int32.ofInt v) = Int32.ofInt v := by
  have key : ∀ n : Fin 256, vp_nar .byte (Int32.ofInt ((n : Nat) - 128 : Int)) = Int32.ofInt ((n : Nat) - 128 : Int) := by decide +kernel
  have := key ⟨(v + 128).toNat, by omega⟩
  have e : (((v + 128).toNat : Nat) : Int) - 128 = v := by omega
  change vp_nar .byte (Int32.ofInt ((((v + 128).toNat : Nat) : Int) - 128)) = Int32.ofInt ((((v + 128).toNat : Nat) : Int) - 128) at this
  rwa [e] at this
theorem zV_zast {k n : Nat} {i v : Int} (ht : tab[k]? = some (1, 1, [n])) (hi : 0 ≤ i ∧ i < n) (hv : v = 0 ∨ v = 1) (hd : decode μ.1 pc = .ok (.bastore, 1)) (hs : n < 2147483648) (hn : pc + 1 = pc') (kk : zV G μ Q pc' ls st (zwr h k i.toNat v)) : zV G μ Q pc ls (.inl v :: .inl i :: .inr (.inr k) :: st) h := by
  subst hn
  intro p e s m args below meth c H locs lsA C hP hS hL
  have e0 := zwl_get (G := G) (h := h) ht
  have hD := zwl_D (G := G) (h := h) C.2.2.2.2.2.2.2.2.1
  refine va_zast C.1 C.2.1 C.2.2.2.2.2.2.2.1 hP hD hS k 1 e0 rfl (vin32 hi hs) hd (fun H1 locs1 hP1 _ hS1 => ?_)
  have ew := zwl_set (G := G) (h := h) (i := i.toNat) (v := v) ht
  refine kk p e s m args below meth c H1 locs1 lsA C ?_ hS1 hL
  show va_P _ _ (zwl G (zwr h k i.toNat v)) H1
  rw [← ew]
  rw [tn32 ⟨hi.1, by omega⟩] at hP1
  have ef : cellOf (zca G) (zad G) (1, 1, [n]) (fun j => if j = i.toNat then v else h k j) = .inl (zca G 1, n, .inl (upd (fun j => Int32.ofInt (h k j)) i.toNat (vp_nar .boolean (Int32.ofInt v)))) := by
    simp only [cellOf]
    congr 4
    funext j
    simp only [upd, vp_updL]
    by_cases hj : j = i.toNat
    · simp [hj, nrb32 hv]
    · simp [hj]
  rw [ef]
  exact hP1
theorem zV_bast {k n : Nat} {i v : Int} (ht : tab[k]? = some (1, 2, [n])) (hi : 0 ≤ i ∧ i < n) (hv : -128 ≤ v ∧ v ≤ 127) (hd : decode μ.1 pc = .ok (.bastore, 1)) (hs : n < 2147483648) (hn : pc + 1 = pc') (kk : zV G μ Q pc' ls st (zwr h k i.toNat v)) : zV G μ Q pc ls (.inl v :: .inl i :: .inr (.inr k) :: st) h := by
  subst hn
  intro p e s m args below meth c H locs lsA C hP hS hL
  have e0 := zwl_get (G := G) (h := h) ht
  have hD := zwl_D (G := G) (h := h) C.2.2.2.2.2.2.2.2.1
  refine va_bast C.1 C.2.1 C.2.2.2.2.2.2.2.1 hP hD hS k 2 e0 rfl (vin32 hi hs) hd (fun H1 locs1 hP1 _ hS1 => ?_)
  have ew := zwl_set (G := G) (h := h) (i := i.toNat) (v := v) ht
  refine kk p e s m args below meth c H1 locs1 lsA C ?_ hS1 hL
  show va_P _ _ (zwl G (zwr h k i.toNat v)) H1
  rw [← ew]
  rw [tn32 ⟨hi.1, by omega⟩] at hP1
  have ef : cellOf (zca G) (zad G) (1, 2, [n]) (fun j => if j = i.toNat then v else h k j) = .inl (zca G 2, n, .inl (upd (fun j => Int32.ofInt (h k j)) i.toNat (vp_nar .byte (Int32.ofInt v)))) := by
    simp only [cellOf]
    congr 4
    funext j
    simp only [upd, vp_updL]
    by_cases hj : j = i.toNat
    · simp [hj, nrB32 hv]
    · simp [hj]
  rw [ef]
  exact hP1
theorem zV_last {k n : Nat} {i v : Int} (ht : tab[k]? = some (2, 3, [n])) (hi : 0 ≤ i ∧ i < n) (hd : decode μ.1 pc = .ok (.lastore, 1)) (hs : n < 2147483648) (hn : pc + 1 = pc') (kk : zV G μ Q pc' ls st (zwr h k i.toNat v)) : zV G μ Q pc ls (.inr (.inl v) :: .inl i :: .inr (.inr k) :: st) h := by
  subst hn
  intro p e s m args below meth c H locs lsA C hP hS hL
  have e0 := zwl_get (G := G) (h := h) ht
  have hD := zwl_D (G := G) (h := h) C.2.2.2.2.2.2.2.2.1
  refine va_last C.1 C.2.1 C.2.2.2.2.2.2.2.1 hP hD hS k 3 e0 rfl (vin32 hi hs) hd (fun H1 locs1 hP1 _ hS1 => ?_)
  have ew := zwl_set (G := G) (h := h) (i := i.toNat) (v := v) ht
  refine kk p e s m args below meth c H1 locs1 lsA C ?_ hS1 hL
  show va_P _ _ (zwl G (zwr h k i.toNat v)) H1
  rw [← ew]
  rw [tn32 ⟨hi.1, by omega⟩] at hP1
  have ef : cellOf (zca G) (zad G) (2, 3, [n]) (fun j => if j = i.toNat then v else h k j) = .inl (zca G 3, n, .inr (.inl (vp_updL (fun j => Int64.ofInt (h k j)) i.toNat (Int64.ofInt v)))) := by
    simp only [cellOf]
    congr 5
    funext j
    simp only [upd, vp_updL]
    by_cases hj : j = i.toNat
    · simp [hj]
    · simp [hj]
  rw [ef]
  exact hP1
theorem zV_alen {k n t : Nat} (ht : tab[k]? = some (1, t, [n])) (h6 : t < 3) (hd : decode μ.1 pc = .ok (.arraylength, 1)) (hn : pc + 1 = pc') (kk : zV G μ Q pc' ls (.inl (n : Int) :: st) h) : zV G μ Q pc ls (.inr (.inr k) :: st) h := by
  subst hn
  intro p e s m args below meth c H locs lsA C hP hS hL
  have e0 := zwl_get (G := G) (h := h) ht
  have ht2 : ∃ ty, (ztys G)[t]? = some (zca G t, ty) := by
    match t, h6 with
    | 0, _ => exact ⟨_, rfl⟩
    | 1, _ => exact ⟨_, rfl⟩
    | 2, _ => exact ⟨_, rfl⟩
  obtain ⟨ty, ht2⟩ := ht2
  exact va_alen C.1 C.2.1 C.2.2.2.2.2.2.2.1 hP k t e0 ht2 rfl hd (kk p e s m args below meth c H locs lsA C hP hS hL)
theorem zV_alenL {k n : Nat} (ht : tab[k]? = some (2, 3, [n])) (hd : decode μ.1 pc = .ok (.arraylength, 1)) (hn : pc + 1 = pc') (kk : zV G μ Q pc' ls (.inl (n : Int) :: st) h) : zV G μ Q pc ls (.inr (.inr k) :: st) h := by
  subst hn
  intro p e s m args below meth c H locs lsA C hP hS hL
  have e0 := zwl_get (G := G) (h := h) ht
  exact va_alen C.1 C.2.1 C.2.2.2.2.2.2.2.1 hP k 3 e0 (show (ztys G)[3]? = some (zca G 3, .long) from rfl) rfl hd (kk p e s m args below meth c H locs lsA C hP hS hL)
/-- a field's link: what the tables say -/
def zFL (own : String) (idx ci i : Nat) : Prop := ∃ (C : String) (T : u_T) (N : Nat) (ty : Nat → FieldType), vwCl[ci]? = some (C, T, N) ∧ i < N ∧ (∀ w ∈ u_ws C T N, w ∈ gT) ∧ (∀ k, k < N → parseFieldDescriptor (T k).2.2.1 = some (ty k)) ∧ (∀ a, a < N → ∀ b, b < N → a ≠ b → (T a).2.1 ≠ (T b).2.1) ∧ Cond.fieldLink own idx (T i).1 (T i).2.1 (T i).2.2.1 ∈ gT
def zFP (own : String) (idx ci i : Nat) (t : FieldType) : Prop := ∃ (C : String) (T : u_T) (N : Nat) (ty : Nat → FieldType), vwCl[ci]? = some (C, T, N) ∧ i < N ∧ (∀ w ∈ u_ws C T N, w ∈ gT) ∧ (∀ k, k < N → parseFieldDescriptor (T k).2.2.1 = some (ty k)) ∧ (∀ a, a < N → ∀ b, b < N → a ≠ b → (T a).2.1 ≠ (T b).2.1) ∧ Cond.fieldLink own idx (T i).1 (T i).2.1 (T i).2.2.1 ∈ gT ∧ (T i).2.2.2 = false ∧ parseFieldDescriptor (T i).2.2.1 = some t
def zsf (h : Hp) (k i : Nat) : Nat → Sv
  | 0 => .inl (h k i)
  | 1 => .inr (.inl (h k i))
  | (c + 2) => .inr (.inr c)
theorem zsf_dn (ad : Nat → Nat) (h : Hp) (k i c : Nat) : dn ad (zsf h k i c) = fv ad (h k) i c := by
  match c with
  | 0 => rfl
  | 1 => rfl
  | c + 2 => rfl
theorem zV_getf {k i ci c idx : Nat} {cs : List Nat} (hf : zFL μ.2.2.2.1 idx ci i) (ht : tab[k]? = some (0, ci, cs)) (hc : cs[i]? = some c) (hd : decode μ.1 pc = .ok (.getfield idx, 3)) (hn : pc + 3 = pc') (kk : zV G μ Q pc' ls (zsf h k i c :: st) h) : zV G μ Q pc ls (.inr (.inr k) :: st) h := by
  subst hn
  intro p e s m args below meth c0 H locs lsA C hP hS hL
  obtain ⟨C1, T, N, ty, h1, h2, h3, h4, h5, h6⟩ := hf
  have e0 := zwl_get (G := G) (h := h) ht
  have e1 := fld_get (zad G) (h k) cs 0 i c hc
  rw [Nat.zero_add] at e1
  refine va_get C.1 C.2.1 C.2.2.2.2.2.2.1 h3 C.2.2.2.2.2.1 C.2.2.2.2.2.2.2.1 hP k e0 h1 i h2 (C.2.2.2.2.2.2.1 _ h6) (fun _ z => z) e1 hd ?_
  rw [← zsf_dn]
  exact kk p e s m args below meth c0 H locs lsA C hP hS hL
theorem zV_putf {k i ci c idx : Nat} {cs : List Nat} {t : FieldType} {v : Int} {sv : Sv} (hf : zFP μ.2.2.2.1 idx ci i t) (ht : tab[k]? = some (0, ci, cs)) (hc : cs[i]? = some c) (hc2 : c < 2) (hsv : dn (zad G) sv = fv (zad G) (fun _ => v) i c) (hna : narrow t (fv (zad G) (fun _ => v) i c) = fv (zad G) (fun _ => v) i c) (hfi : fits t (fv (zad G) (fun _ => v) i c) = true) (hd : decode μ.1 pc = .ok (.putfield idx, 3)) (hn : pc + 3 = pc') (kk : zV G μ Q pc' ls st (zwr h k i v)) : zV G μ Q pc ls (sv :: .inr (.inr k) :: st) h := by
  subst hn
  intro p e s m args below meth c0 H locs lsA C hP hS hL
  obtain ⟨C1, T, N, ty, h1, h2, h3, h4, h5, h6, h7, h8⟩ := hf
  have e0 := zwl_get (G := G) (h := h) ht
  have hD := zwl_D (G := G) (h := h) C.2.2.2.2.2.2.2.2.1
  show W _ _ _ _ _ _ _ _ _ _ _ _ _ _ _ (F0 m pc lsA (dn (zad G) sv :: .ref (zad G k) :: st.map (dn (zad G))))
  rw [hsv]
  refine va_put C.1 C.2.1 C.2.2.2.2.2.2.1 h3 ty h4 h5 C.2.2.2.2.2.1 C.2.2.2.2.2.2.2.1 hP hD hS k e0 h1 i h2 (C.2.2.2.2.2.2.1 _ h6) (fun _ z => z) h7 h8 hna hfi ?_ hd (fun H1 locs1 hP1 _ hS1 => ?_)
  · rw [fld_len]
    exact (List.getElem?_eq_some_iff.mp hc).1
  · have ew := zwl_set (G := G) (h := h) (i := i) (v := v) ht
    refine kk p e s m args below meth c0 H1 locs1 lsA C ?_ hS1 hL
    show va_P _ _ (zwl G (zwr h k i v)) H1
    rw [← ew]
    have es := fld_set (zad G) (h k) v cs 0 i c hc hc2
    rw [Nat.zero_add] at es
    rw [es] at hP1
    exact hP1
theorem zV_puti {k i ci idx : Nat} {cs : List Nat} {v : Int} (hf : zFP μ.2.2.2.1 idx ci i .int) (ht : tab[k]? = some (0, ci, cs)) (hc : cs[i]? = some 0) (hd : decode μ.1 pc = .ok (.putfield idx, 3)) (hn : pc + 3 = pc') (kk : zV G μ Q pc' ls st (zwr h k i v)) : zV G μ Q pc ls (.inl v :: .inr (.inr k) :: st) h :=
  zV_putf hf ht hc (by decide) rfl rfl rfl hd hn kk
theorem zV_putz {k i ci idx : Nat} {cs : List Nat} {v : Int} (hf : zFP μ.2.2.2.1 idx ci i .boolean) (hv : v = 0 ∨ v = 1) (ht : tab[k]? = some (0, ci, cs)) (hc : cs[i]? = some 0) (hd : decode μ.1 pc = .ok (.putfield idx, 3)) (hn : pc + 3 = pc') (kk : zV G μ Q pc' ls st (zwr h k i v)) : zV G μ Q pc ls (.inl v :: .inr (.inr k) :: st) h :=
  zV_putf hf ht hc (by decide) rfl (by rcases hv with rfl | rfl; exact (show narrow .boolean (.int (Int32.ofInt 0)) = .int (Int32.ofInt 0) from rfl); exact (show narrow .boolean (.int (Int32.ofInt 1)) = .int (Int32.ofInt 1) from rfl)) (by rcases hv with rfl | rfl; exact (show fits .boolean (.int (Int32.ofInt 0)) = true from rfl); exact (show fits .boolean (.int (Int32.ofInt 1)) = true from rfl)) hd hn kk
theorem zV_putl {k i ci idx : Nat} {cs : List Nat} {v : Int} (hf : zFP μ.2.2.2.1 idx ci i .long) (ht : tab[k]? = some (0, ci, cs)) (hc : cs[i]? = some 1) (hd : decode μ.1 pc = .ok (.putfield idx, 3)) (hn : pc + 3 = pc') (kk : zV G μ Q pc' ls st (zwr h k i v)) : zV G μ Q pc ls (.inr (.inl v) :: .inr (.inr k) :: st) h :=
  zV_putf hf ht hc (by decide) rfl rfl rfl hd hn kk
theorem zV_ldc {n : Int} {idx : Nat} {x : Int32} (hw : Cond.constant μ.2.2.2.1 idx x ∈ gT) (hx : Int32.ofInt n = x) (hd : decode μ.1 pc = .ok (.ldc idx, 2)) (hn : pc + 2 = pc') (kk : zV G μ Q pc' ls (.inl n :: st) h) : zV G μ Q pc ls st h := by
  subst hn
  subst hx
  intro p e s m args below meth c H locs lsA C hP hS hL
  exact lv_ldc C.1 C.2.1 C.2.2.2.2.2.1 (C.2.2.2.2.2.2.1 _ hw) hd (kk p e s m args below meth c H locs lsA C hP hS hL)
theorem zV_ldc2 {n : Int} {idx : Nat} {x : Int64} (hw : Cond.constantLong μ.2.2.2.1 idx x ∈ gT) (hx : Int64.ofInt n = x) (hd : decode μ.1 pc = .ok (.ldc2_w idx, 3)) (hn : pc + 3 = pc') (kk : zV G μ Q pc' ls (.inr (.inl n) :: st) h) : zV G μ Q pc ls st h := by
  subst hn
  subst hx
  intro p e s m args below meth c H locs lsA C hP hS hL
  exact lv_ldc2 C.1 C.2.1 C.2.2.2.2.2.1 (C.2.2.2.2.2.2.1 _ hw) hd (kk p e s m args below meth c H locs lsA C hP hS hL)
/-- answers -/
theorem zV_iret {a : Int} (hr : μ.2.2.1 = some .int) (hd : decode μ.1 pc = .ok (.ireturn, 1)) (hq : Q a h) : zV G μ Q pc ls [.inl a] h := by
  intro p e s m args below meth c H locs lsA C hP hS hL
  exact W.iret (v := Int32.ofInt a) C.1 C.2.1 (C.2.2.2.1.trans hr) (fun t ht hW => ⟨⟨a, h, by rw [hr]; rfl, hq, by rw [ht]; exact hP⟩, hS.F ht⟩) hS.2.2 hd C.2.2.2.2.1
theorem zV_zret {a : Int} (hr : μ.2.2.1 = some .boolean) (ha : a = 0 ∨ a = 1) (hd : decode μ.1 pc = .ok (.ireturn, 1)) (hq : Q a h) : zV G μ Q pc ls [.inl a] h := by
  intro p e s m args below meth c H locs lsA C hP hS hL
  exact W.zret (v := Int32.ofInt a) (ty := .boolean) C.1 C.2.1 (C.2.2.2.1.trans hr) (by rcases ha with rfl | rfl <;> rfl) (fun t ht hW => ⟨⟨a, h, by rw [hr]; rfl, hq, by rw [ht]; exact hP⟩, hS.F ht⟩) hS.2.2 hd C.2.2.2.2.1
theorem zV_lret {a : Int} (hr : μ.2.2.1 = some .long) (hd : decode μ.1 pc = .ok (.lreturn, 1)) (hq : Q a h) : zV G μ Q pc ls [.inr (.inl a)] h := by
  intro p e s m args below meth c H locs lsA C hP hS hL
  exact W.lret (v := Int64.ofInt a) C.1 C.2.1 (C.2.2.2.1.trans hr) (fun t ht hW => ⟨⟨a, h, by rw [hr]; rfl, hq, by rw [ht]; exact hP⟩, hS.F ht⟩) hS.2.2 hd C.2.2.2.2.1
theorem zV_vret (hr : μ.2.2.1 = none) (hd : decode μ.1 pc = .ok (.return_, 1)) (hq : Q 0 h) : zV G μ Q pc ls [] h := by
  intro p e s m args below meth c H locs lsA C hP hS hL
  exact W.vret C.1 C.2.1 (C.2.2.2.1.trans hr) (fun t ht hW => ⟨⟨0, h, by rw [hr]; rfl, hq, by rw [ht]; exact hP⟩, hS.F ht⟩) hS.2.2 hd C.2.2.2.2.1
theorem zV_aret {k : Nat} {nm : String} (hr : μ.2.2.1 = some (.object nm)) (hd : decode μ.1 pc = .ok (.areturn, 1)) (hq : Q (k : Int) h) : zV G μ Q pc ls [.inr (.inr k)] h := by
  intro p e s m args below meth c H locs lsA C hP hS hL
  exact W.aret (v := .ref (zad G k)) C.1 C.2.1 (C.2.2.2.1.trans hr) (Or.inl ⟨nm, rfl⟩) (Or.inr ⟨_, rfl⟩) (fun t ht hW => ⟨⟨(k : Int), h, by rw [hr]; rfl, hq, by rw [ht]; exact hP⟩, hS.F ht⟩) hS.2.2 hd C.2.2.2.2.1
end Branch
end
section
/-! calls and contracts -/
def zB (G : Ga) (h : Hp) (U : State) : Prop := zP G h U.heap ∧ zK G U ∧ zInj G ∧ zXS G ∧ zX G U
/-- a method's contract: from the heap h with these arguments it ends, with Q -/
def zM (G : Ga) (μ : Mt) (y : MethodName) (av : List Sv) (h : Hp) (Q : Int → Hp → Prop) : Prop :=
  Met G.1 y (.code y μ.1 μ.2.1 μ.2.2.1 :: gT) μ.2.2.2.2 (va_Pc (av.map (dn (zad G))) (zB G h)) (zQ G μ.2.2.1 Q) 0 0 (zA G)
def ent : List Sv → Lo
  | [] => []
  | .inl a :: t => some (.inl a) :: ent t
  | .inr (.inl a) :: t => some (.inr (.inl a)) :: none :: ent t
  | .inr (.inr a) :: t => some (.inr (.inr a)) :: ent t
theorem lg_sl_cons (v : Value) (t : List Value) : lg_sl (v :: t) = (if v.category = 2 then [.val v, .second] else [.val v]) ++ lg_sl t := by
  simp only [lg_sl, List.flatMap_cons]
theorem ent_len (ad : Nat → Nat) : ∀ av : List Sv, (lg_sl (av.map (dn ad))).length = (ent av).length
  | [] => rfl
  | .inl a :: t => by
    have := ent_len ad t
    rw [List.map_cons, lg_sl_cons, List.length_append, this, if_neg (show ¬ (dn ad (.inl a)).category = 2 from (by decide : ¬ (1 = 2)))]
    simp only [ent, List.length_cons, List.length_nil]
    omega
  | .inr (.inl a) :: t => by
    have := ent_len ad t
    rw [List.map_cons, lg_sl_cons, List.length_append, this, if_pos (show (dn ad (.inr (.inl a))).category = 2 from rfl)]
    simp only [ent, List.length_cons, List.length_nil]
    omega
  | .inr (.inr a) :: t => by
    have := ent_len ad t
    rw [List.map_cons, lg_sl_cons, List.length_append, this, if_neg (show ¬ (dn ad (.inr (.inr a))).category = 2 from (by decide : ¬ (1 = 2)))]
    simp only [ent, List.length_cons, List.length_nil]
    omega
theorem ent_in (ad : Nat → Nat) : ∀ (av : List Sv) (i j : Nat) (w : Sv), (ent av)[j]? = some (some w) → (i + j, dn ad w) ∈ lv_args i (av.map (dn ad))
  | [], i, j, w, h => by simp [ent] at h
  | .inl a :: t, i, 0, w, h => by
    simp [ent] at h
    subst h
    simp [lv_args]
  | .inr (.inr a) :: t, i, 0, w, h => by
    simp [ent] at h
    subst h
    simp [lv_args]
  | .inr (.inl a) :: t, i, 0, w, h => by
    simp [ent] at h
    subst h
    simp [lv_args]
  | .inl a :: t, i, j + 1, w, h => by
    have := ent_in ad t (i + 1) j w (by simpa [ent] using h)
    rw [show i + 1 + j = i + (j + 1) by omega] at this
    simp only [List.map_cons, lv_args]
    exact List.mem_cons_of_mem _ this
  | .inr (.inr a) :: t, i, j + 1, w, h => by
    have := ent_in ad t (i + 1) j w (by simpa [ent] using h)
    rw [show i + 1 + j = i + (j + 1) by omega] at this
    simp only [List.map_cons, lv_args]
    exact List.mem_cons_of_mem _ this
  | .inr (.inl a) :: t, i, 1, w, h => by simp [ent] at h
  | .inr (.inl a) :: t, i, j + 2, w, h => by
    have := ent_in ad t (i + 2) j w (by simpa [ent] using h)
    rw [show i + 2 + j = i + (j + 2) by omega] at this
    simp only [List.map_cons, lv_args]
    exact List.mem_cons_of_mem _ this
theorem zM_of {G : Ga} {μ : Mt} {y : MethodName} {av : List Sv} {h : Hp} {Q : Int → Hp → Prop} (ls : Lo) (n : Nat) (hy : plainName y.cls = true) (hc : y.cls = μ.2.2.2.1) (hn : (ent av).length ≤ μ.2.1) (hls : ls = ent av ++ List.replicate n none) (kk : zV G μ Q 0 ls [] h) : zM G μ y av h Q := by
  refine Met.ofW (cc := μ.1) (maxL := μ.2.1) (ret := μ.2.2.1) hy rfl ?_
  intro p e s m args below meth c s₁ B hml hv
  obtain ⟨rfl, hP, hK, hI, hXS, hX⟩ := hv
  have hts := atoms_spec (ws := (.code y μ.1 μ.2.1 μ.2.2.1 :: gT)) B.pre
  have hl := lv_entry (av.map (dn (zad G))) (n := μ.2.1) (by rw [ent_len]; exact hn)
  rw [lg_entry_eq]
  refine kk p e s m _ below meth c s.heap [] _ ⟨B.exec, B.bytes, hml, B.returns, B.notSynchronized, ?_, fun w hw => hts w (List.mem_cons_of_mem _ hw), hK, hI, hXS, hX⟩ hP va_S.rf ⟨_, hl, fun j w hj => ?_⟩
  · rw [← hc]
    exact findClass_of_methodNamed B.named
  · rw [hls] at hj
    have hj2 : (ent av)[j]? = some (some w) := by
      by_cases hlt : j < (ent av).length
      · rwa [List.getElem?_append_left hlt] at hj
      · rw [List.getElem?_append_right (by omega)] at hj
        have := List.mem_of_getElem? hj
        have := (List.mem_replicate.mp this).2
        cases this
    have := ent_in (zad G) av 0 j w hj2
    rwa [Nat.zero_add] at this
def zpu (rt : Option FieldType) (r : Int) : List Sv := match rt with
  | none => []
  | some .long => [.inr (.inl r)]
  | some (.object _) => [.inr (.inr r.toNat)]
  | some _ => [.inl r]
theorem zpu_dn (G : Ga) (rt : Option FieldType) (r : Int) : (zrv G rt r).toList = (zpu rt r).map (dn (zad G)) := by
  match rt with
  | none => rfl
  | some .long => rfl
  | some (.object _) => rfl
  | some .int => rfl
  | some .byte => rfl
  | some .char => rfl
  | some .double => rfl
  | some .float => rfl
  | some .short => rfl
  | some .boolean => rfl
  | some (.array _) => rfl
def svW : Sv → Nat
  | .inr (.inl _) => 2
  | _ => 1
def stW : List Sv → Nat
  | [] => 0
  | v :: t => svW v + stW t
theorem stW_dn (ad : Nat → Nat) : ∀ st : List Sv, ((st.map (dn ad)).map fun v => v.category).sum = stW st
  | [] => rfl
  | .inl a :: t => by simp only [List.map_cons, List.sum_cons, stW, stW_dn ad t]; rfl
  | .inr (.inl a) :: t => by simp only [List.map_cons, List.sum_cons, stW, stW_dn ad t]; rfl
  | .inr (.inr a) :: t => by simp only [List.map_cons, List.sum_cons, stW, stW_dn ad t]; rfl
/-- what the tables say of a method that is called: its code, its parameters, no cells -/
def zTk (μ : Mt) (y : MethodName) (n : Nat) : Prop := Cond.code y μ.1 μ.2.1 μ.2.2.1 ∈ gT ∧ Cond.initialized y.cls ∈ gT ∧ (y.cls ≠ "java/lang/invoke/MethodHandle" ∧ y.cls ≠ "java/lang/invoke/VarHandle") ∧ (parseMethodDescriptor y.desc).map (fun d => d.parameters.length) = some n ∧ μ.2.2.2.2.cells = 0 ∧ μ.2.2.2.2.slots = 0
def zTv (y : MethodName) : Prop := Cond.instanceMethod y ∈ gT ∧ Cond.selects y.cls y y ∈ gT
def zLk (own : String) (idx : Nat) (y : MethodName) : Prop := Cond.methodLink own idx y ∈ gT ∨ ∃ host, Cond.methodLinkNest own idx y host ∈ gT
def zRm (μ μ' : Mt) : Prop := μ'.2.2.2.2.frames + 1 ≤ μ.2.2.2.2.frames ∧ 8 + (μ'.2.1 + 11) + μ'.2.2.2.2.locals ≤ μ.2.2.2.2.locals
section Calls
variable {G : Ga} {μ μ' : Mt} {Q Q' : Int → Hp → Prop} {pc pc' idx n : Nat} {ls : Lo} {st : List Sv} {h : Hp} {y : MethodName}
theorem zV_cont {p : Program} {e : Env} {s : State} {m : MethodId} {args : Array Value} {below : List Frame} {meth : Method} {c : Code} {H : Heap} {locs : List Loc} {lsA : Array Slot} {st0 : List Value} {a : Array Value} {rt : Option FieldType}
    (C : zCx G μ p s m args meth c) (hS : va_S (zA G) s.heap H locs) (hL : zLH (zad G) lsA μ.2.1 ls)
    (hr : va_Run p G.1 e μ.2.2.2.2 s m args below meth c H locs 0 0 0 0 (F0 m pc lsA st0) (st.map (dn (zad G))) (zQ G rt Q' a) (zA G))
    (kk : ∀ (r : Int) (h' : Hp), Q' r h' → zV G μ Q (pc + 3) ls (zpu rt r ++ st) h') :
    W p G.1 e μ.2.2.2.2 s m args below meth c H locs 0 0 (MQ below (zQ G μ.2.2.1 Q) args s 0 0 (zA G)) (F0 m pc lsA st0) := by
  intro T hT X
  obtain ⟨v, st₀, t, T', L, e0, X', hLf, e1, e2, ⟨⟨r, h', hv, hq, hP'⟩, hz, hk⟩, st1⟩ := hr T hT X
  cases hv
  rw [e0] at hz hk
  have hS1 : va_S (zA G) s.heap T'.heap (locs ++ L) := ⟨Nat.le_trans hS.1 (by rw [e1]; exact hz), fun q h1 h2 => by rw [e1, hk q (Nat.lt_of_lt_of_le h1 hS.1) h2]; exact hS.2.1 q h1 h2, fun q hq => by
      rcases List.mem_append.mp hq with h | h
      · exact hS.2.2 q h
      · exact hLf q h⟩
  obtain ⟨t2, a1, b1⟩ := kk r h' hq p e s m args below meth c T'.heap (locs ++ L) lsA C (by rw [e1]; exact hP') hS1 hL T' rfl X'
  refine ⟨t2, st1 t2 ?_, b1⟩
  rw [zpu_dn, ← List.map_append]
  exact a1
theorem zB_blind {av : List Value} : FrameBlind (va_Pc av (zB G h)) := by
  intro a U g mk hp
  obtain ⟨q0, qP, qK, qI, qS, qX⟩ := hp
  exact ⟨q0, qP, va_K.moved (u := U) (U := U.calling g mk a) (Vm.Alike.refl U.vm) qK, qI, qS, qS U (U.calling g mk a) qX (Or.inr rfl) (Nat.le_refl _) (fun _ _ _ => rfl)⟩
theorem zB_at {p : Program} {s U : State} {m : MethodId} {args : Array Value} {meth : Method} {c : Code} {H : Heap} {locs : List Loc} (C : zCx G μ p s m args meth c) (hP : zP G h H) (hS : va_S (zA G) s.heap H locs) (hU : U.heap = H) (hW : s.WarmedH U.vm) : zB G h U := by
  refine ⟨by rw [hU]; exact hP, va_K.moved hW.alike C.2.2.2.2.2.2.2.1, C.2.2.2.2.2.2.2.2.1, C.2.2.2.2.2.2.2.2.2.1, ?_⟩
  refine C.2.2.2.2.2.2.2.2.2.1 s U C.2.2.2.2.2.2.2.2.2.2 (Or.inl hW) (by rw [hU]; exact hS.1) (fun q h1 h2 => ?_)
  rw [hU]
  exact hS.2.1 q h1 h2
theorem gT_ws {p : Program} {s : State} {m : MethodId} {args : Array Value} {meth : Method} {c : Code} {w0 : Cond} (C : zCx G μ p s m args meth c) (h0 : w0 ∈ gT) : ∀ w ∈ w0 :: gT, ∀ (a' : Array Value) (U : State), s.WarmedH U.vm → w.before a' U = true := by
  intro w hw a' U hW
  have hw : w ∈ gT := by
    rcases List.mem_cons.mp hw with rfl | h
    · exact h0
    · exact h
  exact gT_pay C.2.2.2.2.2.2.1 w hw a' U hW
theorem zV_inv (tk : zTk μ' y n) (tv : zTv y) (lk : zLk μ.2.2.2.1 idx y) (rm : zRm μ μ') {k ci : Nat} {cs : List Nat} {q : vw_C} (ht : tab[k]? = some (0, ci, cs)) (hq : vwCl[ci]? = some q) (hqc : q.1 = y.cls) (As : List Sv) (hM : zM G μ' y (.inr (.inr k) :: As) h Q') (hd : decode μ.1 pc = .ok (.invokevirtual idx, 3)) (hn : As.length = n) (h8 : stW st ≤ 8) (hp : pc + 3 = pc')
    (kk : ∀ (r : Int) (h' : Hp), Q' r h' → zV G μ Q pc' ls (zpu μ'.2.2.1 r ++ st) h') : zV G μ Q pc ls (As.reverse ++ .inr (.inr k) :: st) h := by
  subst hp
  intro p e s m args below meth c H locs lsA C hP hS hL
  obtain ⟨t1, t2, t3, t4, t5, t6⟩ := tk
  have ok : ∀ w ∈ gT, w.before args s = true := C.2.2.2.2.2.2.1
  have e0 := zwl_get (G := G) (h := h) ht
  have hrc := va_recv C.2.2.2.2.2.2.2.1 hP (ci := ci) (q0 := k) hq e0
  rw [hqc] at hrc
  have hpre : PreV s H y.cls (zad G k) (va_Pc ((.inr (.inr k) :: As).map (dn (zad G))) (zB G h)) (As.map (dn (zad G))) := ⟨zB_blind, hrc, fun U hU hW => ⟨by rw [List.map_cons]; rfl, zB_at C hP hS hU hW⟩⟩
  have hsig : ∀ sig, parseMethodDescriptor y.desc = some sig → n = sig.parameters.length := fun sig hh => by
    rw [hh] at t4
    exact (Option.some.inj t4).symm
  have hstk : ((As.reverse ++ .inr (.inr k) :: st).map (dn (zad G))) = (As.map (dn (zad G))).reverse ++ Value.ref (zad G k) :: st.map (dn (zad G)) := by
    rw [List.map_append, List.map_reverse, List.map_cons]
    rfl
  have hW8 : 2 * (F0 m pc lsA ((As.reverse ++ .inr (.inr k) :: st).map (dn (zad G)))).monitorRoom + ((st.map (dn (zad G))).map fun v => v.category).sum ≤ 8 := lv_room (by rw [stW_dn]; exact h8)
  have fx : CallFix p m c μ.1 μ.2.1 s args gT μ.2.2.2.1 := ⟨C.1, C.2.1, C.2.2.1, C.2.2.2.2.2.1, ok⟩
  rcases lk with lk | ⟨host, lk⟩
  · refine zV_cont C hS hL (va_runV (As := As.map (dn (zad G))) (rest := st.map (dn (zad G))) (C := y.cls) (bytes := μ'.1) (maxL := μ'.2.1) (ret := μ'.2.2.1) (n := n) fx hM ⟨⟨t5, t6, rm.1, rm.2, gT_ws C t1, List.mem_cons_self, ok _ t1, ok _ t2, t3, hsig, ok _ lk⟩, ok _ tv.1, ok _ tv.2⟩ hpre rfl (by rw [List.length_map]; exact hn) hL.size hstk hW8 hd ⟨Nat.zero_le _, Nat.zero_le _⟩) kk
  · refine zV_cont C hS hL (va_runVN (As := As.map (dn (zad G))) (rest := st.map (dn (zad G))) (C := y.cls) (host := host) (bytes := μ'.1) (maxL := μ'.2.1) (ret := μ'.2.2.1) (n := n) fx hM ⟨⟨⟨t5, t6, rm.1, rm.2, gT_ws C t1, List.mem_cons_self⟩, ok _ t1, ok _ t2, t3, hsig, ok _ lk⟩, ok _ tv.1, ok _ tv.2⟩ hpre rfl (by rw [List.length_map]; exact hn) hL.size hstk hW8 hd ⟨Nat.zero_le _, Nat.zero_le _⟩) kk
theorem zV_ins (tk : zTk μ' y n) (tv : Cond.static y ∈ gT) (lk : zLk μ.2.2.2.1 idx y) (rm : zRm μ μ') (As : List Sv) (hM : zM G μ' y As h Q') (hd : decode μ.1 pc = .ok (.invokestatic idx, 3)) (hn : As.length = n) (h8 : stW st ≤ 8) (hp : pc + 3 = pc')
    (kk : ∀ (r : Int) (h' : Hp), Q' r h' → zV G μ Q pc' ls (zpu μ'.2.2.1 r ++ st) h') : zV G μ Q pc ls (As.reverse ++ st) h := by
  subst hp
  intro p e s m args below meth c H locs lsA C hP hS hL
  obtain ⟨t1, t2, t3, t4, t5, t6⟩ := tk
  have ok : ∀ w ∈ gT, w.before args s = true := C.2.2.2.2.2.2.1
  have hpre : PreS s H (va_Pc (As.map (dn (zad G))) (zB G h)) (As.map (dn (zad G))) := ⟨zB_blind, fun U hU hW => ⟨rfl, zB_at C hP hS hU hW⟩⟩
  have hsig : ∀ sig, parseMethodDescriptor y.desc = some sig → n = sig.parameters.length := fun sig hh => by
    rw [hh] at t4
    exact (Option.some.inj t4).symm
  have hstk : ((As.reverse ++ st).map (dn (zad G))) = (As.map (dn (zad G))).reverse ++ st.map (dn (zad G)) := by
    rw [List.map_append, List.map_reverse]
  have hW8 : 2 * (F0 m pc lsA ((As.reverse ++ st).map (dn (zad G)))).monitorRoom + ((st.map (dn (zad G))).map fun v => v.category).sum ≤ 8 := lv_room (by rw [stW_dn]; exact h8)
  have fx : CallFix p m c μ.1 μ.2.1 s args gT μ.2.2.2.1 := ⟨C.1, C.2.1, C.2.2.1, C.2.2.2.2.2.1, ok⟩
  rcases lk with lk | ⟨host, lk⟩
  · refine zV_cont C hS hL (va_runS (As := As.map (dn (zad G))) (rest := st.map (dn (zad G))) (bytes := μ'.1) (maxL := μ'.2.1) (ret := μ'.2.2.1) (n := n) fx hM ⟨⟨t5, t6, rm.1, rm.2, gT_ws C t1, List.mem_cons_self, ok _ t1, ok _ t2, t3, hsig, ok _ lk⟩, ok _ tv⟩ hpre rfl (by rw [List.length_map]; exact hn) hL.size hstk hW8 hd ⟨Nat.zero_le _, Nat.zero_le _⟩) kk
  · refine zV_cont C hS hL (va_runSN (As := As.map (dn (zad G))) (rest := st.map (dn (zad G))) (host := host) (bytes := μ'.1) (maxL := μ'.2.1) (ret := μ'.2.2.1) (n := n) fx hM ⟨⟨⟨t5, t6, rm.1, rm.2, gT_ws C t1, List.mem_cons_self⟩, ok _ t1, ok _ t2, t3, hsig, ok _ lk⟩, ok _ tv, trivial⟩ hpre rfl (by rw [List.length_map]; exact hn) hL.size hstk hW8 hd ⟨Nat.zero_le _, Nat.zero_le _⟩) kk
end Calls
end
