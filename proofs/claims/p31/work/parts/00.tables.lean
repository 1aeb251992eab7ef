-- ===== PART A: goes FIRST, ahead of the names: the tables' words, and 'selects' of the private methods out of them =====
/-- a private method of a class that the tables say can be made, by its rows of tables_1 -/
def lw_okq (q : MethodName × Nat) : Prop := (q.1.cls ≠ "java/lang/invoke/MethodHandle" ∧ q.1.cls ≠ "java/lang/invoke/VarHandle") ∧ Cond.instantiable q.1.cls q.2 ∈ tables_1 ∧ Cond.privateMethod q.1 ∈ tables_1 ∧ Cond.instanceMethod q.1 ∈ tables_1
theorem lw_t1 {w : Cond} (i : Nat) (h : tables_1_1[i]? = some w) : w ∈ tables_1 := List.mem_append_left _ (List.mem_of_getElem? h)
theorem lw_t2 {w : Cond} (i : Nat) (h : tables_1_2[i]? = some w) : w ∈ tables_1 := List.mem_append_right _ (List.mem_append_left _ (List.mem_of_getElem? h))
theorem lw_t3 {w : Cond} (i : Nat) (h : tables_1_3[i]? = some w) : w ∈ tables_1 := List.mem_append_right _ (List.mem_append_right _ (List.mem_append_left _ (List.mem_of_getElem? h)))
theorem lw_t4 {w : Cond} (i : Nat) (h : tables_1_4[i]? = some w) : w ∈ tables_1 := List.mem_append_right _ (List.mem_append_right _ (List.mem_append_right _ (List.mem_append_left _ (List.mem_of_getElem? h))))
theorem lw_t5 {w : Cond} (i : Nat) (h : tables_1_5[i]? = some w) : w ∈ tables_1 := List.mem_append_right _ (List.mem_append_right _ (List.mem_append_right _ (List.mem_append_right _ (List.mem_append_left _ (List.mem_of_getElem? h)))))
theorem lw_t6 {w : Cond} (i : Nat) (h : tables_1_6[i]? = some w) : w ∈ tables_1 := List.mem_append_right _ (List.mem_append_right _ (List.mem_append_right _ (List.mem_append_right _ (List.mem_append_right _ (List.mem_append_left _ (List.mem_of_getElem? h))))))
theorem lw_t7 {w : Cond} (i : Nat) (h : tables_1_7[i]? = some w) : w ∈ tables_1 := List.mem_append_right _ (List.mem_append_right _ (List.mem_append_right _ (List.mem_append_right _ (List.mem_append_right _ (List.mem_append_right _ (List.mem_append_left _ (List.mem_of_getElem? h)))))))
theorem lw_t8 {w : Cond} (i : Nat) (h : tables_1_8[i]? = some w) : w ∈ tables_1 := List.mem_append_right _ (List.mem_append_right _ (List.mem_append_right _ (List.mem_append_right _ (List.mem_append_right _ (List.mem_append_right _ (List.mem_append_right _ (List.mem_of_getElem? h)))))))
theorem lw_c0 : "RawPictures$Reader" ≠ "java/lang/invoke/MethodHandle" ∧ "RawPictures$Reader" ≠ "java/lang/invoke/VarHandle" := ⟨by decide +kernel, by decide +kernel⟩
theorem lw_p0 : lw_okq (⟨"RawPictures$Reader", "readStage", "()V"⟩, 5) := ⟨lw_c0, lw_t1 130 rfl, lw_t2 160 rfl, lw_t2 161 rfl⟩
theorem lw_p1 : lw_okq (⟨"RawPictures$Reader", "readLetter", "()I"⟩, 5) := ⟨lw_c0, lw_t1 130 rfl, lw_t2 164 rfl, lw_t2 165 rfl⟩
theorem lw_p2 : lw_okq (⟨"RawPictures$Reader", "here", "()I"⟩, 5) := ⟨lw_c0, lw_t1 130 rfl, lw_t2 168 rfl, lw_t2 169 rfl⟩
theorem lw_p3 : lw_okq (⟨"RawPictures$Reader", "tell", "(II)V"⟩, 5) := ⟨lw_c0, lw_t1 130 rfl, lw_t3 23 rfl, lw_t3 24 rfl⟩
theorem lw_p4 : lw_okq (⟨"RawPictures$Reader", "expect", "(C)V"⟩, 5) := ⟨lw_c0, lw_t1 130 rfl, lw_t3 31 rfl, lw_t3 32 rfl⟩
theorem lw_p5 : lw_okq (⟨"RawPictures$Reader", "readPoints", "()V"⟩, 5) := ⟨lw_c0, lw_t1 130 rfl, lw_t3 35 rfl, lw_t3 36 rfl⟩
theorem lw_p6 : lw_okq (⟨"RawPictures$Reader", "readNumber", "(II)I"⟩, 5) := ⟨lw_c0, lw_t1 130 rfl, lw_t3 39 rfl, lw_t3 40 rfl⟩
theorem lw_p7 : lw_okq (⟨"RawPictures$Reader", "isDigit", "()Z"⟩, 5) := ⟨lw_c0, lw_t1 130 rfl, lw_t3 43 rfl, lw_t3 44 rfl⟩
theorem lw_p8 : lw_okq (⟨"RawPictures$Reader", "readNumbers", "(I)V"⟩, 5) := ⟨lw_c0, lw_t1 130 rfl, lw_t3 51 rfl, lw_t3 52 rfl⟩
theorem lw_c1 : "RawPictures" ≠ "java/lang/invoke/MethodHandle" ∧ "RawPictures" ≠ "java/lang/invoke/VarHandle" := ⟨by decide +kernel, by decide +kernel⟩
theorem lw_p9 : lw_okq (⟨"RawPictures", "rawChanged", "()V"⟩, 13) := ⟨lw_c1, lw_t1 24 rfl, lw_t3 100 rfl, lw_t3 101 rfl⟩
theorem lw_p10 : lw_okq (⟨"RawPictures", "drawn", "(II)I"⟩, 13) := ⟨lw_c1, lw_t1 24 rfl, lw_t3 129 rfl, lw_t3 130 rfl⟩
theorem lw_c2 : "RawPictures$Truth" ≠ "java/lang/invoke/MethodHandle" ∧ "RawPictures$Truth" ≠ "java/lang/invoke/VarHandle" := ⟨by decide +kernel, by decide +kernel⟩
theorem lw_p11 : lw_okq (⟨"RawPictures$Truth", "isFirst", "(IIILRawPictures$Mosaic;)Z"⟩, 2) := ⟨lw_c2, lw_t1 88 rfl, lw_t3 152 rfl, lw_t3 153 rfl⟩
theorem lw_c3 : "RawPictures$Darkroom" ≠ "java/lang/invoke/MethodHandle" ∧ "RawPictures$Darkroom" ≠ "java/lang/invoke/VarHandle" := ⟨by decide +kernel, by decide +kernel⟩
theorem lw_p12 : lw_okq (⟨"RawPictures$Darkroom", "apply", "(IILRawPictures$Sheet;LRawPictures$Sheet;)V"⟩, 8) := ⟨lw_c3, lw_t1 155 rfl, lw_t3 209 rfl, lw_t3 210 rfl⟩
theorem lw_c4 : "RawPictures$EarlyStages" ≠ "java/lang/invoke/MethodHandle" ∧ "RawPictures$EarlyStages" ≠ "java/lang/invoke/VarHandle" := ⟨by decide +kernel, by decide +kernel⟩
theorem lw_p13 : lw_okq (⟨"RawPictures$EarlyStages", "greenOf", "(LRawPictures$Sheet;III)I"⟩, 1) := ⟨lw_c4, lw_t1 180 rfl, lw_t4 19 rfl, lw_t4 20 rfl⟩
theorem lw_p14 : lw_okq (⟨"RawPictures$EarlyStages", "fillRedAndBlue", "(LRawPictures$Sheet;LRawPictures$Sheet;II)V"⟩, 1) := ⟨lw_c4, lw_t1 180 rfl, lw_t4 28 rfl, lw_t4 29 rfl⟩
theorem lw_p15 : lw_okq (⟨"RawPictures$EarlyStages", "aboveGreen", "(LRawPictures$Sheet;LRawPictures$Sheet;II)I"⟩, 1) := ⟨lw_c4, lw_t1 180 rfl, lw_t4 32 rfl, lw_t4 33 rfl⟩
def lw_privs_1 : List (MethodName × Nat) := [(⟨"RawPictures$Reader", "readStage", "()V"⟩, 5), (⟨"RawPictures$Reader", "readLetter", "()I"⟩, 5), (⟨"RawPictures$Reader", "here", "()I"⟩, 5), (⟨"RawPictures$Reader", "tell", "(II)V"⟩, 5), (⟨"RawPictures$Reader", "expect", "(C)V"⟩, 5), (⟨"RawPictures$Reader", "readPoints", "()V"⟩, 5), (⟨"RawPictures$Reader", "readNumber", "(II)I"⟩, 5), (⟨"RawPictures$Reader", "isDigit", "()Z"⟩, 5), (⟨"RawPictures$Reader", "readNumbers", "(I)V"⟩, 5), (⟨"RawPictures", "rawChanged", "()V"⟩, 13), (⟨"RawPictures", "drawn", "(II)I"⟩, 13), (⟨"RawPictures$Truth", "isFirst", "(IIILRawPictures$Mosaic;)Z"⟩, 2), (⟨"RawPictures$Darkroom", "apply", "(IILRawPictures$Sheet;LRawPictures$Sheet;)V"⟩, 8), (⟨"RawPictures$EarlyStages", "greenOf", "(LRawPictures$Sheet;III)I"⟩, 1), (⟨"RawPictures$EarlyStages", "fillRedAndBlue", "(LRawPictures$Sheet;LRawPictures$Sheet;II)V"⟩, 1), (⟨"RawPictures$EarlyStages", "aboveGreen", "(LRawPictures$Sheet;LRawPictures$Sheet;II)I"⟩, 1)]
theorem lw_r1 : ∀ q ∈ lw_privs_1, lw_okq q := List.forall_mem_cons.mpr ⟨lw_p0, List.forall_mem_cons.mpr ⟨lw_p1, List.forall_mem_cons.mpr ⟨lw_p2, List.forall_mem_cons.mpr ⟨lw_p3, List.forall_mem_cons.mpr ⟨lw_p4, List.forall_mem_cons.mpr ⟨lw_p5, List.forall_mem_cons.mpr ⟨lw_p6, List.forall_mem_cons.mpr ⟨lw_p7, List.forall_mem_cons.mpr ⟨lw_p8, List.forall_mem_cons.mpr ⟨lw_p9, List.forall_mem_cons.mpr ⟨lw_p10, List.forall_mem_cons.mpr ⟨lw_p11, List.forall_mem_cons.mpr ⟨lw_p12, List.forall_mem_cons.mpr ⟨lw_p13, List.forall_mem_cons.mpr ⟨lw_p14, List.forall_mem_cons.mpr ⟨lw_p15, fun _ h => absurd h List.not_mem_nil⟩⟩⟩⟩⟩⟩⟩⟩⟩⟩⟩⟩⟩⟩⟩⟩
theorem lw_c5 : "RawPictures$LateStages" ≠ "java/lang/invoke/MethodHandle" ∧ "RawPictures$LateStages" ≠ "java/lang/invoke/VarHandle" := ⟨by decide +kernel, by decide +kernel⟩
theorem lw_p16 : lw_okq (⟨"RawPictures$LateStages", "voteColour", "([II)V"⟩, 7) := ⟨lw_c5, lw_t1 190 rfl, lw_t4 41 rfl, lw_t4 42 rfl⟩
theorem lw_p17 : lw_okq (⟨"RawPictures$LateStages", "medianAt", "([IIII)I"⟩, 7) := ⟨lw_c5, lw_t1 190 rfl, lw_t4 45 rfl, lw_t4 46 rfl⟩
theorem lw_p18 : lw_okq (⟨"RawPictures$LateStages", "isGrey", "([III)Z"⟩, 7) := ⟨lw_c5, lw_t1 190 rfl, lw_t4 55 rfl, lw_t4 56 rfl⟩
theorem lw_p19 : lw_okq (⟨"RawPictures$LateStages", "gainOf", "(II)I"⟩, 7) := ⟨lw_c5, lw_t1 190 rfl, lw_t4 65 rfl, lw_t4 66 rfl⟩
theorem lw_p20 : lw_okq (⟨"RawPictures$LateStages", "multiplyColour", "(LRawPictures$Sheet;LRawPictures$Sheet;III)V"⟩, 7) := ⟨lw_c5, lw_t1 190 rfl, lw_t4 75 rfl, lw_t4 76 rfl⟩
theorem lw_p21 : lw_okq (⟨"RawPictures$LateStages", "paled", "(III)I"⟩, 7) := ⟨lw_c5, lw_t1 190 rfl, lw_t4 90 rfl, lw_t4 91 rfl⟩
theorem lw_p22 : lw_okq (⟨"RawPictures$LateStages", "bent", "(ILRawPictures$Recipe;I)I"⟩, 7) := ⟨lw_c5, lw_t1 190 rfl, lw_t4 98 rfl, lw_t4 99 rfl⟩
theorem lw_p23 : lw_okq (⟨"RawPictures$LateStages", "layBase", "(LRawPictures$Sheet;III)V"⟩, 7) := ⟨lw_c5, lw_t1 190 rfl, lw_t4 112 rfl, lw_t4 113 rfl⟩
theorem lw_p24 : lw_okq (⟨"RawPictures$LateStages", "addToAll", "(LRawPictures$Sheet;LRawPictures$Sheet;II)V"⟩, 7) := ⟨lw_c5, lw_t1 190 rfl, lw_t4 116 rfl, lw_t4 117 rfl⟩
theorem lw_p25 : lw_okq (⟨"RawPictures$LateStages", "buildFloor", "([I[III)V"⟩, 7) := ⟨lw_c5, lw_t1 190 rfl, lw_t4 128 rfl, lw_t4 129 rfl⟩
theorem lw_p26 : lw_okq (⟨"RawPictures", "markFound", "(I)V"⟩, 13) := ⟨lw_c1, lw_t1 24 rfl, lw_t4 166 rfl, lw_t4 167 rfl⟩
theorem lw_c6 : "RawPictures$Clumps" ≠ "java/lang/invoke/MethodHandle" ∧ "RawPictures$Clumps" ≠ "java/lang/invoke/VarHandle" := ⟨by decide +kernel, by decide +kernel⟩
theorem lw_p27 : lw_okq (⟨"RawPictures$Clumps", "take", "(IIZ)I"⟩, 8) := ⟨lw_c6, lw_t2 66 rfl, lw_t4 202 rfl, lw_t4 203 rfl⟩
theorem lw_p28 : lw_okq (⟨"RawPictures$Clumps", "enqueue", "(II)V"⟩, 8) := ⟨lw_c6, lw_t2 66 rfl, lw_t4 206 rfl, lw_t4 207 rfl⟩
theorem lw_p29 : lw_okq (⟨"RawPictures", "isLeftOf", "(II)Z"⟩, 13) := ⟨lw_c1, lw_t1 24 rfl, lw_t5 15 rfl, lw_t5 16 rfl⟩
theorem lw_c7 : "RawPictures$Meter" ≠ "java/lang/invoke/MethodHandle" ∧ "RawPictures$Meter" ≠ "java/lang/invoke/VarHandle" := ⟨by decide +kernel, by decide +kernel⟩
theorem lw_p30 : lw_okq (⟨"RawPictures$Meter", "ringOf", "(II)I"⟩, 12) := ⟨lw_c7, lw_t2 13 rfl, lw_t5 27 rfl, lw_t5 28 rfl⟩
theorem lw_p31 : lw_okq (⟨"RawPictures$Meter", "digitsOf", "(I)I"⟩, 12) := ⟨lw_c7, lw_t2 13 rfl, lw_t5 96 rfl, lw_t5 97 rfl⟩
def lw_privs_2 : List (MethodName × Nat) := [(⟨"RawPictures$LateStages", "voteColour", "([II)V"⟩, 7), (⟨"RawPictures$LateStages", "medianAt", "([IIII)I"⟩, 7), (⟨"RawPictures$LateStages", "isGrey", "([III)Z"⟩, 7), (⟨"RawPictures$LateStages", "gainOf", "(II)I"⟩, 7), (⟨"RawPictures$LateStages", "multiplyColour", "(LRawPictures$Sheet;LRawPictures$Sheet;III)V"⟩, 7), (⟨"RawPictures$LateStages", "paled", "(III)I"⟩, 7), (⟨"RawPictures$LateStages", "bent", "(ILRawPictures$Recipe;I)I"⟩, 7), (⟨"RawPictures$LateStages", "layBase", "(LRawPictures$Sheet;III)V"⟩, 7), (⟨"RawPictures$LateStages", "addToAll", "(LRawPictures$Sheet;LRawPictures$Sheet;II)V"⟩, 7), (⟨"RawPictures$LateStages", "buildFloor", "([I[III)V"⟩, 7), (⟨"RawPictures", "markFound", "(I)V"⟩, 13), (⟨"RawPictures$Clumps", "take", "(IIZ)I"⟩, 8), (⟨"RawPictures$Clumps", "enqueue", "(II)V"⟩, 8), (⟨"RawPictures", "isLeftOf", "(II)Z"⟩, 13), (⟨"RawPictures$Meter", "ringOf", "(II)I"⟩, 12), (⟨"RawPictures$Meter", "digitsOf", "(I)I"⟩, 12)]
theorem lw_r2 : ∀ q ∈ lw_privs_2, lw_okq q := List.forall_mem_cons.mpr ⟨lw_p16, List.forall_mem_cons.mpr ⟨lw_p17, List.forall_mem_cons.mpr ⟨lw_p18, List.forall_mem_cons.mpr ⟨lw_p19, List.forall_mem_cons.mpr ⟨lw_p20, List.forall_mem_cons.mpr ⟨lw_p21, List.forall_mem_cons.mpr ⟨lw_p22, List.forall_mem_cons.mpr ⟨lw_p23, List.forall_mem_cons.mpr ⟨lw_p24, List.forall_mem_cons.mpr ⟨lw_p25, List.forall_mem_cons.mpr ⟨lw_p26, List.forall_mem_cons.mpr ⟨lw_p27, List.forall_mem_cons.mpr ⟨lw_p28, List.forall_mem_cons.mpr ⟨lw_p29, List.forall_mem_cons.mpr ⟨lw_p30, List.forall_mem_cons.mpr ⟨lw_p31, fun _ h => absurd h List.not_mem_nil⟩⟩⟩⟩⟩⟩⟩⟩⟩⟩⟩⟩⟩⟩⟩⟩
theorem lw_p32 : lw_okq (⟨"RawPictures$Meter", "lightAt", "(LRawPictures$Sheet;II)I"⟩, 12) := ⟨lw_c7, lw_t2 13 rfl, lw_t5 113 rfl, lw_t5 114 rfl⟩
theorem lw_p33 : lw_okq (⟨"RawPictures", "badness", "(LRawPictures$Sheet;I)J"⟩, 13) := ⟨lw_c1, lw_t1 24 rfl, lw_t5 176 rfl, lw_t5 177 rfl⟩
theorem lw_c8 : "RawPicturesModel" ≠ "java/lang/invoke/MethodHandle" ∧ "RawPicturesModel" ≠ "java/lang/invoke/VarHandle" := ⟨by decide +kernel, by decide +kernel⟩
theorem lw_p34 : lw_okq (⟨"RawPicturesModel", "types", "(I)V"⟩, 54) := ⟨lw_c8, lw_t5 206 rfl, lw_t6 140 rfl, lw_t6 141 rfl⟩
theorem lw_p35 : lw_okq (⟨"RawPicturesModel", "readsStage", "()Z"⟩, 54) := ⟨lw_c8, lw_t5 206 rfl, lw_t6 151 rfl, lw_t6 152 rfl⟩
theorem lw_p36 : lw_okq (⟨"RawPicturesModel", "here", "()I"⟩, 54) := ⟨lw_c8, lw_t5 206 rfl, lw_t6 155 rfl, lw_t6 156 rfl⟩
theorem lw_p37 : lw_okq (⟨"RawPicturesModel", "wrongAt", "(II)Z"⟩, 54) := ⟨lw_c8, lw_t5 206 rfl, lw_t6 165 rfl, lw_t6 166 rfl⟩
theorem lw_p38 : lw_okq (⟨"RawPicturesModel", "isFilledSoFar", "()Z"⟩, 54) := ⟨lw_c8, lw_t5 206 rfl, lw_t6 169 rfl, lw_t6 170 rfl⟩
theorem lw_p39 : lw_okq (⟨"RawPicturesModel", "takesSign", "(I)Z"⟩, 54) := ⟨lw_c8, lw_t5 206 rfl, lw_t6 173 rfl, lw_t6 174 rfl⟩
theorem lw_p40 : lw_okq (⟨"RawPicturesModel", "readsNumbers", "(I)Z"⟩, 54) := ⟨lw_c8, lw_t5 206 rfl, lw_t6 177 rfl, lw_t6 178 rfl⟩
theorem lw_p41 : lw_okq (⟨"RawPicturesModel", "readsNumber", "(II)Z"⟩, 54) := ⟨lw_c8, lw_t5 206 rfl, lw_t6 181 rfl, lw_t6 182 rfl⟩
theorem lw_p42 : lw_okq (⟨"RawPicturesModel", "readsNext", "(II)Z"⟩, 54) := ⟨lw_c8, lw_t5 206 rfl, lw_t6 188 rfl, lw_t6 189 rfl⟩
theorem lw_p43 : lw_okq (⟨"RawPicturesModel", "readsCurve", "()Z"⟩, 54) := ⟨lw_c8, lw_t5 206 rfl, lw_t6 192 rfl, lw_t6 193 rfl⟩
theorem lw_p44 : lw_okq (⟨"RawPicturesModel", "isStage", "(I)Z"⟩, 54) := ⟨lw_c8, lw_t5 206 rfl, lw_t6 203 rfl, lw_t6 204 rfl⟩
theorem lw_p45 : lw_okq (⟨"RawPicturesModel", "numberMany", "(I)I"⟩, 54) := ⟨lw_c8, lw_t5 206 rfl, lw_t6 207 rfl, lw_t6 208 rfl⟩
theorem lw_p46 : lw_okq (⟨"RawPicturesModel", "numberOf", "(II)I"⟩, 54) := ⟨lw_c8, lw_t5 206 rfl, lw_t6 211 rfl, lw_t6 212 rfl⟩
theorem lw_p47 : lw_okq (⟨"RawPicturesModel", "changed", "()V"⟩, 54) := ⟨lw_c8, lw_t5 206 rfl, lw_t6 219 rfl, lw_t6 220 rfl⟩
def lw_privs_3 : List (MethodName × Nat) := [(⟨"RawPictures$Meter", "lightAt", "(LRawPictures$Sheet;II)I"⟩, 12), (⟨"RawPictures", "badness", "(LRawPictures$Sheet;I)J"⟩, 13), (⟨"RawPicturesModel", "types", "(I)V"⟩, 54), (⟨"RawPicturesModel", "readsStage", "()Z"⟩, 54), (⟨"RawPicturesModel", "here", "()I"⟩, 54), (⟨"RawPicturesModel", "wrongAt", "(II)Z"⟩, 54), (⟨"RawPicturesModel", "isFilledSoFar", "()Z"⟩, 54), (⟨"RawPicturesModel", "takesSign", "(I)Z"⟩, 54), (⟨"RawPicturesModel", "readsNumbers", "(I)Z"⟩, 54), (⟨"RawPicturesModel", "readsNumber", "(II)Z"⟩, 54), (⟨"RawPicturesModel", "readsNext", "(II)Z"⟩, 54), (⟨"RawPicturesModel", "readsCurve", "()Z"⟩, 54), (⟨"RawPicturesModel", "isStage", "(I)Z"⟩, 54), (⟨"RawPicturesModel", "numberMany", "(I)I"⟩, 54), (⟨"RawPicturesModel", "numberOf", "(II)I"⟩, 54), (⟨"RawPicturesModel", "changed", "()V"⟩, 54)]
theorem lw_r3 : ∀ q ∈ lw_privs_3, lw_okq q := List.forall_mem_cons.mpr ⟨lw_p32, List.forall_mem_cons.mpr ⟨lw_p33, List.forall_mem_cons.mpr ⟨lw_p34, List.forall_mem_cons.mpr ⟨lw_p35, List.forall_mem_cons.mpr ⟨lw_p36, List.forall_mem_cons.mpr ⟨lw_p37, List.forall_mem_cons.mpr ⟨lw_p38, List.forall_mem_cons.mpr ⟨lw_p39, List.forall_mem_cons.mpr ⟨lw_p40, List.forall_mem_cons.mpr ⟨lw_p41, List.forall_mem_cons.mpr ⟨lw_p42, List.forall_mem_cons.mpr ⟨lw_p43, List.forall_mem_cons.mpr ⟨lw_p44, List.forall_mem_cons.mpr ⟨lw_p45, List.forall_mem_cons.mpr ⟨lw_p46, List.forall_mem_cons.mpr ⟨lw_p47, fun _ h => absurd h List.not_mem_nil⟩⟩⟩⟩⟩⟩⟩⟩⟩⟩⟩⟩⟩⟩⟩⟩
theorem lw_p48 : lw_okq (⟨"RawPicturesModel", "isSquare", "(II)Z"⟩, 54) := ⟨lw_c8, lw_t5 206 rfl, lw_t6 231 rfl, lw_t6 232 rfl⟩
theorem lw_p49 : lw_okq (⟨"RawPicturesModel", "deadMany", "()I"⟩, 54) := ⟨lw_c8, lw_t5 206 rfl, lw_t6 239 rfl, lw_t7 0 rfl⟩
theorem lw_p50 : lw_okq (⟨"RawPicturesModel", "sceneAt", "(IIIII)I"⟩, 54) := ⟨lw_c8, lw_t5 206 rfl, lw_t7 7 rfl, lw_t7 8 rfl⟩
theorem lw_p51 : lw_okq (⟨"RawPicturesModel", "colourAt", "(II)I"⟩, 54) := ⟨lw_c8, lw_t5 206 rfl, lw_t7 12 rfl, lw_t7 13 rfl⟩
theorem lw_p52 : lw_okq (⟨"RawPicturesModel", "truthAt", "(IIII)I"⟩, 54) := ⟨lw_c8, lw_t5 206 rfl, lw_t7 20 rfl, lw_t7 21 rfl⟩
theorem lw_p53 : lw_okq (⟨"RawPicturesModel", "isRow", "(I)Z"⟩, 54) := ⟨lw_c8, lw_t5 206 rfl, lw_t7 36 rfl, lw_t7 37 rfl⟩
theorem lw_p54 : lw_okq (⟨"RawPicturesModel", "leaves", "()V"⟩, 54) := ⟨lw_c8, lw_t5 206 rfl, lw_t7 40 rfl, lw_t7 41 rfl⟩
theorem lw_p55 : lw_okq (⟨"RawPicturesModel", "laysOwn", "(IIII)V"⟩, 54) := ⟨lw_c8, lw_t5 206 rfl, lw_t7 44 rfl, lw_t7 45 rfl⟩
theorem lw_p56 : lw_okq (⟨"RawPicturesModel", "lays", "(IIIII)V"⟩, 54) := ⟨lw_c8, lw_t5 206 rfl, lw_t7 57 rfl, lw_t7 58 rfl⟩
theorem lw_p57 : lw_okq (⟨"RawPicturesModel", "does", "(III)V"⟩, 54) := ⟨lw_c8, lw_t5 206 rfl, lw_t7 61 rfl, lw_t7 62 rfl⟩
theorem lw_p58 : lw_okq (⟨"RawPicturesModel", "fills", "(III)V"⟩, 54) := ⟨lw_c8, lw_t5 206 rfl, lw_t7 65 rfl, lw_t7 66 rfl⟩
theorem lw_p59 : lw_okq (⟨"RawPicturesModel", "greenOf", "(IIII)I"⟩, 54) := ⟨lw_c8, lw_t5 206 rfl, lw_t7 69 rfl, lw_t7 70 rfl⟩
theorem lw_p60 : lw_okq (⟨"RawPicturesModel", "own", "(III)I"⟩, 54) := ⟨lw_c8, lw_t5 206 rfl, lw_t7 73 rfl, lw_t7 74 rfl⟩
theorem lw_p61 : lw_okq (⟨"RawPicturesModel", "wayOf", "(III)I"⟩, 54) := ⟨lw_c8, lw_t5 206 rfl, lw_t7 80 rfl, lw_t7 81 rfl⟩
theorem lw_p62 : lw_okq (⟨"RawPicturesModel", "otherOf", "(IIIII)I"⟩, 54) := ⟨lw_c8, lw_t5 206 rfl, lw_t7 87 rfl, lw_t7 88 rfl⟩
theorem lw_p63 : lw_okq (⟨"RawPicturesModel", "at", "(IIII)I"⟩, 54) := ⟨lw_c8, lw_t5 206 rfl, lw_t7 91 rfl, lw_t7 92 rfl⟩
def lw_privs_4 : List (MethodName × Nat) := [(⟨"RawPicturesModel", "isSquare", "(II)Z"⟩, 54), (⟨"RawPicturesModel", "deadMany", "()I"⟩, 54), (⟨"RawPicturesModel", "sceneAt", "(IIIII)I"⟩, 54), (⟨"RawPicturesModel", "colourAt", "(II)I"⟩, 54), (⟨"RawPicturesModel", "truthAt", "(IIII)I"⟩, 54), (⟨"RawPicturesModel", "isRow", "(I)Z"⟩, 54), (⟨"RawPicturesModel", "leaves", "()V"⟩, 54), (⟨"RawPicturesModel", "laysOwn", "(IIII)V"⟩, 54), (⟨"RawPicturesModel", "lays", "(IIIII)V"⟩, 54), (⟨"RawPicturesModel", "does", "(III)V"⟩, 54), (⟨"RawPicturesModel", "fills", "(III)V"⟩, 54), (⟨"RawPicturesModel", "greenOf", "(IIII)I"⟩, 54), (⟨"RawPicturesModel", "own", "(III)I"⟩, 54), (⟨"RawPicturesModel", "wayOf", "(III)I"⟩, 54), (⟨"RawPicturesModel", "otherOf", "(IIIII)I"⟩, 54), (⟨"RawPicturesModel", "at", "(IIII)I"⟩, 54)]
theorem lw_r4 : ∀ q ∈ lw_privs_4, lw_okq q := List.forall_mem_cons.mpr ⟨lw_p48, List.forall_mem_cons.mpr ⟨lw_p49, List.forall_mem_cons.mpr ⟨lw_p50, List.forall_mem_cons.mpr ⟨lw_p51, List.forall_mem_cons.mpr ⟨lw_p52, List.forall_mem_cons.mpr ⟨lw_p53, List.forall_mem_cons.mpr ⟨lw_p54, List.forall_mem_cons.mpr ⟨lw_p55, List.forall_mem_cons.mpr ⟨lw_p56, List.forall_mem_cons.mpr ⟨lw_p57, List.forall_mem_cons.mpr ⟨lw_p58, List.forall_mem_cons.mpr ⟨lw_p59, List.forall_mem_cons.mpr ⟨lw_p60, List.forall_mem_cons.mpr ⟨lw_p61, List.forall_mem_cons.mpr ⟨lw_p62, List.forall_mem_cons.mpr ⟨lw_p63, fun _ h => absurd h List.not_mem_nil⟩⟩⟩⟩⟩⟩⟩⟩⟩⟩⟩⟩⟩⟩⟩⟩
theorem lw_p64 : lw_okq (⟨"RawPicturesModel", "over", "(IIII)I"⟩, 54) := ⟨lw_c8, lw_t5 206 rfl, lw_t7 95 rfl, lw_t7 96 rfl⟩
theorem lw_p65 : lw_okq (⟨"RawPicturesModel", "early", "(IIII)V"⟩, 54) := ⟨lw_c8, lw_t5 206 rfl, lw_t7 99 rfl, lw_t7 100 rfl⟩
theorem lw_p66 : lw_okq (⟨"RawPicturesModel", "darkOf", "(III)I"⟩, 54) := ⟨lw_c8, lw_t5 206 rfl, lw_t7 103 rfl, lw_t7 104 rfl⟩
theorem lw_p67 : lw_okq (⟨"RawPicturesModel", "isFound", "(IIII)Z"⟩, 54) := ⟨lw_c8, lw_t5 206 rfl, lw_t7 107 rfl, lw_t7 108 rfl⟩
theorem lw_p68 : lw_okq (⟨"RawPicturesModel", "middleOf", "(III)I"⟩, 54) := ⟨lw_c8, lw_t5 206 rfl, lw_t7 111 rfl, lw_t7 112 rfl⟩
theorem lw_p69 : lw_okq (⟨"RawPicturesModel", "shaded", "(IIII)I"⟩, 54) := ⟨lw_c8, lw_t5 206 rfl, lw_t7 118 rfl, lw_t7 119 rfl⟩
theorem lw_p70 : lw_okq (⟨"RawPicturesModel", "votes", "(III)V"⟩, 54) := ⟨lw_c8, lw_t5 206 rfl, lw_t7 122 rfl, lw_t7 123 rfl⟩
theorem lw_p71 : lw_okq (⟨"RawPicturesModel", "median", "(IIII)I"⟩, 54) := ⟨lw_c8, lw_t5 206 rfl, lw_t7 126 rfl, lw_t7 127 rfl⟩
theorem lw_p72 : lw_okq (⟨"RawPicturesModel", "late", "(IIIII)V"⟩, 54) := ⟨lw_c8, lw_t5 206 rfl, lw_t7 130 rfl, lw_t7 131 rfl⟩
theorem lw_p73 : lw_okq (⟨"RawPicturesModel", "findsWhite", "(II)V"⟩, 54) := ⟨lw_c8, lw_t5 206 rfl, lw_t7 134 rfl, lw_t7 135 rfl⟩
theorem lw_p74 : lw_okq (⟨"RawPicturesModel", "greatest", "(III)I"⟩, 54) := ⟨lw_c8, lw_t5 206 rfl, lw_t7 138 rfl, lw_t7 139 rfl⟩
theorem lw_p75 : lw_okq (⟨"RawPicturesModel", "smallest", "(III)I"⟩, 54) := ⟨lw_c8, lw_t5 206 rfl, lw_t7 142 rfl, lw_t7 143 rfl⟩
theorem lw_p76 : lw_okq (⟨"RawPicturesModel", "findsMean", "(I)V"⟩, 54) := ⟨lw_c8, lw_t5 206 rfl, lw_t7 146 rfl, lw_t7 147 rfl⟩
theorem lw_p77 : lw_okq (⟨"RawPicturesModel", "lightAt", "(III)I"⟩, 54) := ⟨lw_c8, lw_t5 206 rfl, lw_t7 150 rfl, lw_t7 151 rfl⟩
theorem lw_p78 : lw_okq (⟨"RawPicturesModel", "findsFloors", "(I)V"⟩, 54) := ⟨lw_c8, lw_t5 206 rfl, lw_t7 154 rfl, lw_t7 155 rfl⟩
theorem lw_p79 : lw_okq (⟨"RawPicturesModel", "together", "(IIIII)I"⟩, 54) := ⟨lw_c8, lw_t5 206 rfl, lw_t7 158 rfl, lw_t7 159 rfl⟩
def lw_privs_5 : List (MethodName × Nat) := [(⟨"RawPicturesModel", "over", "(IIII)I"⟩, 54), (⟨"RawPicturesModel", "early", "(IIII)V"⟩, 54), (⟨"RawPicturesModel", "darkOf", "(III)I"⟩, 54), (⟨"RawPicturesModel", "isFound", "(IIII)Z"⟩, 54), (⟨"RawPicturesModel", "middleOf", "(III)I"⟩, 54), (⟨"RawPicturesModel", "shaded", "(IIII)I"⟩, 54), (⟨"RawPicturesModel", "votes", "(III)V"⟩, 54), (⟨"RawPicturesModel", "median", "(IIII)I"⟩, 54), (⟨"RawPicturesModel", "late", "(IIIII)V"⟩, 54), (⟨"RawPicturesModel", "findsWhite", "(II)V"⟩, 54), (⟨"RawPicturesModel", "greatest", "(III)I"⟩, 54), (⟨"RawPicturesModel", "smallest", "(III)I"⟩, 54), (⟨"RawPicturesModel", "findsMean", "(I)V"⟩, 54), (⟨"RawPicturesModel", "lightAt", "(III)I"⟩, 54), (⟨"RawPicturesModel", "findsFloors", "(I)V"⟩, 54), (⟨"RawPicturesModel", "together", "(IIIII)I"⟩, 54)]
theorem lw_r5 : ∀ q ∈ lw_privs_5, lw_okq q := List.forall_mem_cons.mpr ⟨lw_p64, List.forall_mem_cons.mpr ⟨lw_p65, List.forall_mem_cons.mpr ⟨lw_p66, List.forall_mem_cons.mpr ⟨lw_p67, List.forall_mem_cons.mpr ⟨lw_p68, List.forall_mem_cons.mpr ⟨lw_p69, List.forall_mem_cons.mpr ⟨lw_p70, List.forall_mem_cons.mpr ⟨lw_p71, List.forall_mem_cons.mpr ⟨lw_p72, List.forall_mem_cons.mpr ⟨lw_p73, List.forall_mem_cons.mpr ⟨lw_p74, List.forall_mem_cons.mpr ⟨lw_p75, List.forall_mem_cons.mpr ⟨lw_p76, List.forall_mem_cons.mpr ⟨lw_p77, List.forall_mem_cons.mpr ⟨lw_p78, List.forall_mem_cons.mpr ⟨lw_p79, fun _ h => absurd h List.not_mem_nil⟩⟩⟩⟩⟩⟩⟩⟩⟩⟩⟩⟩⟩⟩⟩⟩
theorem lw_p80 : lw_okq (⟨"RawPicturesModel", "lateAt", "(IIIIIII)I"⟩, 54) := ⟨lw_c8, lw_t5 206 rfl, lw_t7 162 rfl, lw_t7 163 rfl⟩
theorem lw_p81 : lw_okq (⟨"RawPicturesModel", "gained", "(II)I"⟩, 54) := ⟨lw_c8, lw_t5 206 rfl, lw_t7 166 rfl, lw_t7 167 rfl⟩
theorem lw_p82 : lw_okq (⟨"RawPicturesModel", "paled", "(IIIII)I"⟩, 54) := ⟨lw_c8, lw_t5 206 rfl, lw_t7 170 rfl, lw_t7 171 rfl⟩
theorem lw_p83 : lw_okq (⟨"RawPicturesModel", "curved", "(III)I"⟩, 54) := ⟨lw_c8, lw_t5 206 rfl, lw_t7 174 rfl, lw_t7 175 rfl⟩
theorem lw_p84 : lw_okq (⟨"RawPicturesModel", "baseOf", "(IIII)I"⟩, 54) := ⟨lw_c8, lw_t5 206 rfl, lw_t7 178 rfl, lw_t7 179 rfl⟩
theorem lw_p85 : lw_okq (⟨"RawPicturesModel", "toneAt", "(III)I"⟩, 54) := ⟨lw_c8, lw_t5 206 rfl, lw_t7 182 rfl, lw_t7 183 rfl⟩
theorem lw_p86 : lw_okq (⟨"RawPicturesModel", "floorAt", "(III)I"⟩, 54) := ⟨lw_c8, lw_t5 206 rfl, lw_t7 186 rfl, lw_t7 187 rfl⟩
theorem lw_p87 : lw_okq (⟨"RawPicturesModel", "calmed", "(IIIIII)I"⟩, 54) := ⟨lw_c8, lw_t5 206 rfl, lw_t7 190 rfl, lw_t7 191 rfl⟩
theorem lw_p88 : lw_okq (⟨"RawPicturesModel", "blurAt", "(IIII)I"⟩, 54) := ⟨lw_c8, lw_t5 206 rfl, lw_t7 194 rfl, lw_t7 195 rfl⟩
theorem lw_p89 : lw_okq (⟨"RawPicturesModel", "sharpened", "(IIIIII)I"⟩, 54) := ⟨lw_c8, lw_t5 206 rfl, lw_t7 198 rfl, lw_t7 199 rfl⟩
theorem lw_p90 : lw_okq (⟨"RawPicturesModel", "isBehind", "(I)Z"⟩, 54) := ⟨lw_c8, lw_t5 206 rfl, lw_t7 202 rfl, lw_t7 203 rfl⟩
theorem lw_p91 : lw_okq (⟨"RawPicturesModel", "filler", "()I"⟩, 54) := ⟨lw_c8, lw_t5 206 rfl, lw_t7 206 rfl, lw_t7 207 rfl⟩
theorem lw_p92 : lw_okq (⟨"RawPicturesModel", "isKind", "(II)Z"⟩, 54) := ⟨lw_c8, lw_t5 206 rfl, lw_t7 214 rfl, lw_t7 215 rfl⟩
theorem lw_p93 : lw_okq (⟨"RawPicturesModel", "marksFound", "(I)V"⟩, 54) := ⟨lw_c8, lw_t5 206 rfl, lw_t7 218 rfl, lw_t7 219 rfl⟩
theorem lw_p94 : lw_okq (⟨"RawPicturesModel", "gathers", "(Z)I"⟩, 54) := ⟨lw_c8, lw_t5 206 rfl, lw_t7 226 rfl, lw_t7 227 rfl⟩
theorem lw_p95 : lw_okq (⟨"RawPicturesModel", "spreads", "(IIZ)I"⟩, 54) := ⟨lw_c8, lw_t5 206 rfl, lw_t7 230 rfl, lw_t7 231 rfl⟩
def lw_privs_6 : List (MethodName × Nat) := [(⟨"RawPicturesModel", "lateAt", "(IIIIIII)I"⟩, 54), (⟨"RawPicturesModel", "gained", "(II)I"⟩, 54), (⟨"RawPicturesModel", "paled", "(IIIII)I"⟩, 54), (⟨"RawPicturesModel", "curved", "(III)I"⟩, 54), (⟨"RawPicturesModel", "baseOf", "(IIII)I"⟩, 54), (⟨"RawPicturesModel", "toneAt", "(III)I"⟩, 54), (⟨"RawPicturesModel", "floorAt", "(III)I"⟩, 54), (⟨"RawPicturesModel", "calmed", "(IIIIII)I"⟩, 54), (⟨"RawPicturesModel", "blurAt", "(IIII)I"⟩, 54), (⟨"RawPicturesModel", "sharpened", "(IIIIII)I"⟩, 54), (⟨"RawPicturesModel", "isBehind", "(I)Z"⟩, 54), (⟨"RawPicturesModel", "filler", "()I"⟩, 54), (⟨"RawPicturesModel", "isKind", "(II)Z"⟩, 54), (⟨"RawPicturesModel", "marksFound", "(I)V"⟩, 54), (⟨"RawPicturesModel", "gathers", "(Z)I"⟩, 54), (⟨"RawPicturesModel", "spreads", "(IIZ)I"⟩, 54)]
theorem lw_r6 : ∀ q ∈ lw_privs_6, lw_okq q := List.forall_mem_cons.mpr ⟨lw_p80, List.forall_mem_cons.mpr ⟨lw_p81, List.forall_mem_cons.mpr ⟨lw_p82, List.forall_mem_cons.mpr ⟨lw_p83, List.forall_mem_cons.mpr ⟨lw_p84, List.forall_mem_cons.mpr ⟨lw_p85, List.forall_mem_cons.mpr ⟨lw_p86, List.forall_mem_cons.mpr ⟨lw_p87, List.forall_mem_cons.mpr ⟨lw_p88, List.forall_mem_cons.mpr ⟨lw_p89, List.forall_mem_cons.mpr ⟨lw_p90, List.forall_mem_cons.mpr ⟨lw_p91, List.forall_mem_cons.mpr ⟨lw_p92, List.forall_mem_cons.mpr ⟨lw_p93, List.forall_mem_cons.mpr ⟨lw_p94, List.forall_mem_cons.mpr ⟨lw_p95, fun _ h => absurd h List.not_mem_nil⟩⟩⟩⟩⟩⟩⟩⟩⟩⟩⟩⟩⟩⟩⟩⟩
theorem lw_p96 : lw_okq (⟨"RawPicturesModel", "largest", "(I)I"⟩, 54) := ⟨lw_c8, lw_t5 206 rfl, lw_t7 234 rfl, lw_t7 235 rfl⟩
theorem lw_p97 : lw_okq (⟨"RawPicturesModel", "isAlongEdges", "()Z"⟩, 54) := ⟨lw_c8, lw_t5 206 rfl, lw_t8 10 rfl, lw_t8 11 rfl⟩
theorem lw_p98 : lw_okq (⟨"RawPicturesModel", "isLeftOf", "(II)Z"⟩, 54) := ⟨lw_c8, lw_t5 206 rfl, lw_t8 34 rfl, lw_t8 35 rfl⟩
theorem lw_p99 : lw_okq (⟨"RawPicturesModel", "lists", "(II)V"⟩, 54) := ⟨lw_c8, lw_t5 206 rfl, lw_t8 38 rfl, lw_t8 39 rfl⟩
theorem lw_p100 : lw_okq (⟨"RawPicturesModel", "within", "(II)I"⟩, 54) := ⟨lw_c8, lw_t5 206 rfl, lw_t8 42 rfl, lw_t8 43 rfl⟩
theorem lw_p101 : lw_okq (⟨"RawPicturesModel", "unlikeOnes", "()I"⟩, 54) := ⟨lw_c8, lw_t5 206 rfl, lw_t8 46 rfl, lw_t8 47 rfl⟩
theorem lw_p102 : lw_okq (⟨"RawPicturesModel", "noiseOf", "(IIII)I"⟩, 54) := ⟨lw_c8, lw_t5 206 rfl, lw_t8 54 rfl, lw_t8 55 rfl⟩
theorem lw_p103 : lw_okq (⟨"RawPicturesModel", "ringOf", "(II)I"⟩, 54) := ⟨lw_c8, lw_t5 206 rfl, lw_t8 73 rfl, lw_t8 74 rfl⟩
theorem lw_p104 : lw_okq (⟨"RawPicturesModel", "errorOf", "(III)J"⟩, 54) := ⟨lw_c8, lw_t5 206 rfl, lw_t8 88 rfl, lw_t8 89 rfl⟩
theorem lw_p105 : lw_okq (⟨"RawPicturesModel", "falseOf", "(II)I"⟩, 54) := ⟨lw_c8, lw_t5 206 rfl, lw_t8 96 rfl, lw_t8 97 rfl⟩
theorem lw_p106 : lw_okq (⟨"RawPicturesModel", "unlikeOf", "(IIZI)I"⟩, 54) := ⟨lw_c8, lw_t5 206 rfl, lw_t8 108 rfl, lw_t8 109 rfl⟩
theorem lw_p107 : lw_okq (⟨"RawPicturesModel", "leavesBy", "(II)I"⟩, 54) := ⟨lw_c8, lw_t5 206 rfl, lw_t8 116 rfl, lw_t8 117 rfl⟩
theorem lw_p108 : lw_okq (⟨"RawPicturesModel", "badness", "(II)J"⟩, 54) := ⟨lw_c8, lw_t5 206 rfl, lw_t8 128 rfl, lw_t8 129 rfl⟩
def lw_privs_7 : List (MethodName × Nat) := [(⟨"RawPicturesModel", "largest", "(I)I"⟩, 54), (⟨"RawPicturesModel", "isAlongEdges", "()Z"⟩, 54), (⟨"RawPicturesModel", "isLeftOf", "(II)Z"⟩, 54), (⟨"RawPicturesModel", "lists", "(II)V"⟩, 54), (⟨"RawPicturesModel", "within", "(II)I"⟩, 54), (⟨"RawPicturesModel", "unlikeOnes", "()I"⟩, 54), (⟨"RawPicturesModel", "noiseOf", "(IIII)I"⟩, 54), (⟨"RawPicturesModel", "ringOf", "(II)I"⟩, 54), (⟨"RawPicturesModel", "errorOf", "(III)J"⟩, 54), (⟨"RawPicturesModel", "falseOf", "(II)I"⟩, 54), (⟨"RawPicturesModel", "unlikeOf", "(IIZI)I"⟩, 54), (⟨"RawPicturesModel", "leavesBy", "(II)I"⟩, 54), (⟨"RawPicturesModel", "badness", "(II)J"⟩, 54)]
theorem lw_r7 : ∀ q ∈ lw_privs_7, lw_okq q := List.forall_mem_cons.mpr ⟨lw_p96, List.forall_mem_cons.mpr ⟨lw_p97, List.forall_mem_cons.mpr ⟨lw_p98, List.forall_mem_cons.mpr ⟨lw_p99, List.forall_mem_cons.mpr ⟨lw_p100, List.forall_mem_cons.mpr ⟨lw_p101, List.forall_mem_cons.mpr ⟨lw_p102, List.forall_mem_cons.mpr ⟨lw_p103, List.forall_mem_cons.mpr ⟨lw_p104, List.forall_mem_cons.mpr ⟨lw_p105, List.forall_mem_cons.mpr ⟨lw_p106, List.forall_mem_cons.mpr ⟨lw_p107, List.forall_mem_cons.mpr ⟨lw_p108, fun _ h => absurd h List.not_mem_nil⟩⟩⟩⟩⟩⟩⟩⟩⟩⟩⟩⟩⟩
def lw_privs : List (MethodName × Nat) := lw_privs_1 ++ (lw_privs_2 ++ (lw_privs_3 ++ (lw_privs_4 ++ (lw_privs_5 ++ (lw_privs_6 ++ (lw_privs_7))))))
def lw_tbl : List Cond := k2_sels lw_privs ++ tables_1
theorem lw_privs_ok : ∀ q ∈ lw_privs, lw_okq q := by
  show ∀ q ∈ lw_privs_1 ++ (lw_privs_2 ++ (lw_privs_3 ++ (lw_privs_4 ++ (lw_privs_5 ++ (lw_privs_6 ++ (lw_privs_7)))))), lw_okq q
  exact List.forall_mem_append.mpr ⟨lw_r1, List.forall_mem_append.mpr ⟨lw_r2, List.forall_mem_append.mpr ⟨lw_r3, List.forall_mem_append.mpr ⟨lw_r4, List.forall_mem_append.mpr ⟨lw_r5, List.forall_mem_append.mpr ⟨lw_r6, lw_r7⟩⟩⟩⟩⟩⟩
-- ===== end of PART A; then your names; then what follows =====
